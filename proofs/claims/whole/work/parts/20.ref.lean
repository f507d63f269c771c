def M_thrown (cd : Int32) : Int32 :=
  cd
theorem kS_X3_thrown : yX3_thrown.cls ≠ "java/lang/invoke/MethodHandle" ∧ yX3_thrown.cls ≠ "java/lang/invoke/VarHandle" ∧ (parseMethodDescriptor yX3_thrown.desc).map (fun d => d.parameters.length) = some 0 := by decide +kernel
theorem kV_X3_thrown : yX3_thrown.cls = RX3 ∧ yX3_thrown.cls ≠ "java/lang/invoke/MethodHandle" ∧ yX3_thrown.cls ≠ "java/lang/invoke/VarHandle" ∧ (parseMethodDescriptor yX3_thrown.desc).map (fun d => d.parameters.length) = some 0 := ⟨rfl, kS_X3_thrown⟩
set_option maxHeartbeats 4000000 in
set_option maxRecDepth 100000 in
theorem c_X3_thrown (l : Launch) (D : va_G) (h : Nat) (q1 : Nat) (q2 : Nat) (cA : ClassId) (cB : ClassId) (cd : Int32) (ct : Int32) (tf : Nat → Int32) (ff : Nat → Int64) (td : Int32) (an : Bool) (qb : Int32) (pa : Bool) (aT : Int32) (aF : Int64) (dg : Int64) (fi : Int32) (lo : Bool) : Met l yX3_thrown wsX3_thrown ({ frames := 0, cells := 0, slots := 0, locals := 0 } : Room) (va_Pc [.ref h] (PB D (tRS cA cB) (cMd h q1 q2 cA cB cd ct tf ff td an qb pa aT aF dg fi lo))) (vp_Si (fun r => r = M_thrown cd)) 0 0 (fun _ => False) := by
  refine Met.ofW (cc := cX3_thrown) (maxL := 1) (ret := (some .int)) (by decide) rfl ?_
  intro p e s m args below meth c s₁ B hml hv
  obtain ⟨rfl, hP, hK⟩ := hv
  have hx := B.exec
  have hb := B.bytes
  have hr := B.returns
  have hts := atoms_spec (ws := wsX3_thrown) B.pre
  have hown : s.vm.findClass RX3 = some m.cls := findClass_of_methodNamed B.named
  have hlocks := B.notSynchronized
  have w_1 := hts (.fieldLink RX3 21 "RealStepsModel" "code" "I") (by decide +kernel)
  have in_X3 : ∀ w ∈ wsX30, w ∈ wsX3_thrown := by decide +kernel
  have hl := lv_entry ([.ref h]) (n := 1) (Nat.le_of_ble_eq_true rfl)
  rw [lg_entry_eq]
  generalize (lg_sl ([.ref h]) ++ List.replicate (1 - (lg_sl ([.ref h])).length) Slot.unset).toArray = ls at hl ⊢
  have hl : lv_has ls 1 [(0, .ref h)] := hl
  refine lv_aload_n hx hb dX3_thrown_0 rfl (lv_at hl 0 rfl) ?_
  refine va_get (v := .int cd) (C := RX3) (T := TX3) (N := 13) hx hb hts in_X3 hown hK hP 0 rfl rfl 0 (by decide) w_1 (fun _ h9 => h9) rfl dX3_thrown_1 ?_
  have hw : M_thrown cd = cd := rfl
  exact W.iret hx hb hr (fun t9 ht hW => ⟨_, rfl, hw.symm, ht⟩) t_nil dX3_thrown_4
def M_none (rg : Int32) : Bool :=
  (if rg < 0 then true else (if rg ≤ 7 then false else true))
theorem kS_X3_none : yX3_none.cls ≠ "java/lang/invoke/MethodHandle" ∧ yX3_none.cls ≠ "java/lang/invoke/VarHandle" ∧ (parseMethodDescriptor yX3_none.desc).map (fun d => d.parameters.length) = some 1 := by decide +kernel
set_option maxHeartbeats 4000000 in
set_option maxRecDepth 100000 in
theorem c_X3_none (l : Launch) (rg : Int32) : Met l yX3_none wsX3_none ({ frames := 0, cells := 0, slots := 0, locals := 0 } : Room) (va_Pc [.int rg] (fun _ => True)) (vp_Si (fun r => r = bI (M_none rg))) 0 0 (fun _ => False) := by
  refine Met.ofW (cc := cX3_none) (maxL := 1) (ret := (some .boolean)) (by decide) rfl ?_
  intro p e s m args below meth c s₁ B hml hv
  obtain ⟨rfl, -⟩ := hv
  have hx := B.exec
  have hb := B.bytes
  have hr := B.returns
  have hts := atoms_spec (ws := wsX3_none) B.pre
  have hown : s.vm.findClass RX3 = some m.cls := findClass_of_methodNamed B.named
  have hlocks := B.notSynchronized
  have hl := lv_entry ([.int rg]) (n := 1) (Nat.le_of_ble_eq_true rfl)
  rw [lg_entry_eq]
  generalize (lg_sl ([.int rg]) ++ List.replicate (1 - (lg_sl ([.int rg])).length) Slot.unset).toArray = ls at hl ⊢
  have hl : lv_has ls 1 [(0, .int rg)] := hl
  refine lv_iload_n hx hb dX3_none_0 rfl (lv_at hl 0 rfl) ?_
  refine q_cut (v := bI (if rg < 0 then true else (if rg ≤ 7 then false else true))) (pcJ := 15) (rest := []) (fun J => ?_) ?_
  · refine lv_if_lt (tgt := 10) hx hb dX3_none_1 (by decide) (fun c_1 => ?_) (fun c_1 => ?_)
    · refine lv_iconst (v := 1) hx hb dX3_none_10 (by decide) ?_
      refine lv_goto (tgt := 15) hx hb dX3_none_11 (by decide) ?_
      exact J _ (by rw [if_pos c_1]; try rfl)
    · refine lv_iload_n hx hb dX3_none_4 rfl (lv_at hl 0 rfl) ?_
      refine lv_bipush (v := 7) hx hb dX3_none_5 (by decide) ?_
      refine lv_icmp_le (tgt := 14) hx hb dX3_none_7 (by decide) (fun c_2 => ?_) (fun c_2 => ?_)
      · refine lv_iconst (v := 0) hx hb dX3_none_14 (by decide) ?_
        exact J _ (by rw [if_neg c_1, if_pos c_2]; try rfl)
      · refine lv_iconst (v := 1) hx hb dX3_none_10 (by decide) ?_
        refine lv_goto (tgt := 15) hx hb dX3_none_11 (by decide) ?_
        exact J _ (by rw [if_neg c_1, if_neg c_2]; try rfl)
  have hw : M_none rg = (if rg < 0 then true else (if rg ≤ 7 then false else true)) := rfl
  exact W.zret hx hb hr (bI_nar _) (fun t9 ht hW => ⟨_, rfl, (congrArg bI hw).symm, ht⟩) t_nil dX3_none_15
theorem M_none_in {r : Int32} (h : bI (M_none r) = 0) : vp_in r 8 := by
  rw [bI_0] at h
  unfold M_none at h
  have h7 : (7 : Int32).toInt = 7 := rfl
  have h0 : (0 : Int32).toInt = 0 := rfl
  rw [vp_in_iff]
  split at h
  · cases h
  · split at h
    · rename_i h1 h2
      rw [ilt, h0] at h1
      rw [ile, h7] at h2
      omega
    · cases h
def M_masked (ct : Int32) (wh : Int32) : Bool :=
  (if ((ct / wh) - (ct / wh) / 2 * 2) = 1 then true else false)
theorem kS_X3_masked : yX3_masked.cls ≠ "java/lang/invoke/MethodHandle" ∧ yX3_masked.cls ≠ "java/lang/invoke/VarHandle" ∧ (parseMethodDescriptor yX3_masked.desc).map (fun d => d.parameters.length) = some 1 := by decide +kernel
theorem kV_X3_masked : yX3_masked.cls = RX3 ∧ yX3_masked.cls ≠ "java/lang/invoke/MethodHandle" ∧ yX3_masked.cls ≠ "java/lang/invoke/VarHandle" ∧ (parseMethodDescriptor yX3_masked.desc).map (fun d => d.parameters.length) = some 1 := ⟨rfl, kS_X3_masked⟩
set_option maxHeartbeats 4000000 in
set_option maxRecDepth 100000 in
theorem c_X3_masked (l : Launch) (D : va_G) (h : Nat) (q1 : Nat) (q2 : Nat) (cA : ClassId) (cB : ClassId) (cd : Int32) (ct : Int32) (tf : Nat → Int32) (ff : Nat → Int64) (td : Int32) (an : Bool) (qb : Int32) (pa : Bool) (aT : Int32) (aF : Int64) (dg : Int64) (fi : Int32) (lo : Bool) (wh : Int32) (hw : ¬ wh = 0) : Met l yX3_masked wsX3_masked ({ frames := 0, cells := 0, slots := 0, locals := 0 } : Room) (va_Pc [.ref h, .int wh] (PB D (tRS cA cB) (cMd h q1 q2 cA cB cd ct tf ff td an qb pa aT aF dg fi lo))) (vp_Si (fun r => r = bI (M_masked ct wh))) 0 0 (fun _ => False) := by
  refine Met.ofW (cc := cX3_masked) (maxL := 2) (ret := (some .boolean)) (by decide) rfl ?_
  intro p e s m args below meth c s₁ B hml hv
  obtain ⟨rfl, hP, hK⟩ := hv
  have hx := B.exec
  have hb := B.bytes
  have hr := B.returns
  have hts := atoms_spec (ws := wsX3_masked) B.pre
  have hown : s.vm.findClass RX3 = some m.cls := findClass_of_methodNamed B.named
  have hlocks := B.notSynchronized
  have w_1 := hts (.fieldLink RX3 7 "RealStepsModel" "control" "I") (by decide +kernel)
  have in_X3 : ∀ w ∈ wsX30, w ∈ wsX3_masked := by decide +kernel
  have hl := lv_entry ([.ref h, .int wh]) (n := 2) (Nat.le_of_ble_eq_true rfl)
  rw [lg_entry_eq]
  generalize (lg_sl ([.ref h, .int wh]) ++ List.replicate (2 - (lg_sl ([.ref h, .int wh])).length) Slot.unset).toArray = ls at hl ⊢
  have hl : lv_has ls 2 [(0, .ref h), (1, .int wh)] := hl
  refine lv_aload_n hx hb dX3_masked_0 rfl (lv_at hl 0 rfl) ?_
  refine va_get (v := .int ct) (C := RX3) (T := TX3) (N := 13) hx hb hts in_X3 hown hK hP 0 rfl rfl 1 (by decide) w_1 (fun _ h9 => h9) rfl dX3_masked_1 ?_
  refine lv_iload_n hx hb dX3_masked_4 rfl (lv_at hl 1 rfl) ?_
  refine lv_idiv hx hb dX3_masked_5 hw ?_
  refine lv_iconst (v := 2) hx hb dX3_masked_6 (by decide) ?_
  refine lv_irem hx hb dX3_masked_7 (by decide) ?_
  refine lv_iconst (v := 1) hx hb dX3_masked_8 (by decide) ?_
  refine q_cut (v := bI (if ((ct / wh) - (ct / wh) / 2 * 2) = 1 then true else false)) (pcJ := 17) (rest := []) (fun J => ?_) ?_
  · refine lv_icmp_ne (tgt := 16) hx hb dX3_masked_9 (by decide) (fun c_1 => ?_) (fun c_1 => ?_)
    · refine lv_iconst (v := 0) hx hb dX3_masked_16 (by decide) ?_
      exact J _ (by rw [if_neg c_1]; try rfl)
    · refine lv_iconst (v := 1) hx hb dX3_masked_12 (by decide) ?_
      refine lv_goto (tgt := 17) hx hb dX3_masked_13 (by decide) ?_
      exact J _ (by rw [if_pos c_1]; try rfl)
  have hw : M_masked ct wh = (if ((ct / wh) - (ct / wh) / 2 * 2) = 1 then true else false) := rfl
  exact W.zret hx hb hr (bI_nar _) (fun t9 ht hW => ⟨_, rfl, (congrArg bI hw).symm, ht⟩) t_nil dX3_masked_17
def M_way (ct : Int32) : Int32 :=
  ((ct / 1024) - (ct / 1024) / 4 * 4)
theorem kS_X3_way : yX3_way.cls ≠ "java/lang/invoke/MethodHandle" ∧ yX3_way.cls ≠ "java/lang/invoke/VarHandle" ∧ (parseMethodDescriptor yX3_way.desc).map (fun d => d.parameters.length) = some 0 := by decide +kernel
theorem kV_X3_way : yX3_way.cls = RX3 ∧ yX3_way.cls ≠ "java/lang/invoke/MethodHandle" ∧ yX3_way.cls ≠ "java/lang/invoke/VarHandle" ∧ (parseMethodDescriptor yX3_way.desc).map (fun d => d.parameters.length) = some 0 := ⟨rfl, kS_X3_way⟩
set_option maxHeartbeats 4000000 in
set_option maxRecDepth 100000 in
theorem c_X3_way (l : Launch) (D : va_G) (h : Nat) (q1 : Nat) (q2 : Nat) (cA : ClassId) (cB : ClassId) (cd : Int32) (ct : Int32) (tf : Nat → Int32) (ff : Nat → Int64) (td : Int32) (an : Bool) (qb : Int32) (pa : Bool) (aT : Int32) (aF : Int64) (dg : Int64) (fi : Int32) (lo : Bool) : Met l yX3_way wsX3_way ({ frames := 0, cells := 0, slots := 0, locals := 0 } : Room) (va_Pc [.ref h] (PB D (tRS cA cB) (cMd h q1 q2 cA cB cd ct tf ff td an qb pa aT aF dg fi lo))) (vp_Si (fun r => r = M_way ct)) 0 0 (fun _ => False) := by
  refine Met.ofW (cc := cX3_way) (maxL := 1) (ret := (some .int)) (by decide) rfl ?_
  intro p e s m args below meth c s₁ B hml hv
  obtain ⟨rfl, hP, hK⟩ := hv
  have hx := B.exec
  have hb := B.bytes
  have hr := B.returns
  have hts := atoms_spec (ws := wsX3_way) B.pre
  have hown : s.vm.findClass RX3 = some m.cls := findClass_of_methodNamed B.named
  have hlocks := B.notSynchronized
  have w_1 := hts (.fieldLink RX3 7 "RealStepsModel" "control" "I") (by decide +kernel)
  have in_X3 : ∀ w ∈ wsX30, w ∈ wsX3_way := by decide +kernel
  have hl := lv_entry ([.ref h]) (n := 1) (Nat.le_of_ble_eq_true rfl)
  rw [lg_entry_eq]
  generalize (lg_sl ([.ref h]) ++ List.replicate (1 - (lg_sl ([.ref h])).length) Slot.unset).toArray = ls at hl ⊢
  have hl : lv_has ls 1 [(0, .ref h)] := hl
  refine lv_aload_n hx hb dX3_way_0 rfl (lv_at hl 0 rfl) ?_
  refine va_get (v := .int ct) (C := RX3) (T := TX3) (N := 13) hx hb hts in_X3 hown hK hP 0 rfl rfl 1 (by decide) w_1 (fun _ h9 => h9) rfl dX3_way_1 ?_
  refine lv_sipush (v := 1024) hx hb dX3_way_4 (by decide) ?_
  refine lv_idiv hx hb dX3_way_7 (by decide) ?_
  refine lv_iconst (v := 4) hx hb dX3_way_8 (by decide) ?_
  refine lv_irem hx hb dX3_way_9 (by decide) ?_
  have hw : M_way ct = ((ct / 1024) - (ct / 1024) / 4 * 4) := rfl
  exact W.iret hx hb hr (fun t9 ht hW => ⟨_, rfl, hw.symm, ht⟩) t_nil dX3_way_10
def M_kind (t : Int32) (f : Int64) : Int32 :=
  if (t - t / 32768 * 32768) = 32767 then (if bI (if f = 0 then true else (if f = (-9223372036854775808) then true else false)) = 0 then (5 : Int32) else (4 : Int32))
  else if (t - t / 32768 * 32768) = 0 then bI (if f = 0 then false else true)
  else (if f < 0 then (3 : Int32) else (2 : Int32))
theorem kS_X3_kind : yX3_kind.cls ≠ "java/lang/invoke/MethodHandle" ∧ yX3_kind.cls ≠ "java/lang/invoke/VarHandle" ∧ (parseMethodDescriptor yX3_kind.desc).map (fun d => d.parameters.length) = some 1 := by decide +kernel
theorem kV_X3_kind : yX3_kind.cls = RX3 ∧ yX3_kind.cls ≠ "java/lang/invoke/MethodHandle" ∧ yX3_kind.cls ≠ "java/lang/invoke/VarHandle" ∧ (parseMethodDescriptor yX3_kind.desc).map (fun d => d.parameters.length) = some 1 := ⟨rfl, kS_X3_kind⟩
set_option maxHeartbeats 4000000 in
set_option maxRecDepth 100000 in
theorem c_X3_kind (l : Launch) (D : va_G) (h : Nat) (q1 : Nat) (q2 : Nat) (cA : ClassId) (cB : ClassId) (cd : Int32) (ct : Int32) (tf : Nat → Int32) (ff : Nat → Int64) (td : Int32) (an : Bool) (qb : Int32) (pa : Bool) (aT : Int32) (aF : Int64) (dg : Int64) (fi : Int32) (lo : Bool) (rg : Int32) (hrg : vp_in rg 8) : Met l yX3_kind wsX3_kind ({ frames := 0, cells := 0, slots := 0, locals := 0 } : Room) (va_Pc [.ref h, .int rg] (PB D (tRS cA cB) (cMd h q1 q2 cA cB cd ct tf ff td an qb pa aT aF dg fi lo))) (vp_Si (fun r => r = M_kind (tf rg.toNatClampNeg) (ff rg.toNatClampNeg))) 0 0 (fun _ => False) := by
  refine Met.ofW (cc := cX3_kind) (maxL := 4) (ret := (some .int)) (by decide) rfl ?_
  intro p e s m args below meth c s₁ B hml hv
  obtain ⟨rfl, hP, hK⟩ := hv
  have hx := B.exec
  have hb := B.bytes
  have hr := B.returns
  have hts := atoms_spec (ws := wsX3_kind) B.pre
  have hown : s.vm.findClass RX3 = some m.cls := findClass_of_methodNamed B.named
  have hlocks := B.notSynchronized
  have w_1 := hts (.fieldLink RX3 13 "RealStepsModel" "top" "[I") (by decide +kernel)
  have in_X3 : ∀ w ∈ wsX30, w ∈ wsX3_kind := by decide +kernel
  have w_3 := hts (.constant RX3 33 (32768)) (by decide +kernel)
  have w_4 := hts (.fieldLink RX3 17 "RealStepsModel" "fraction" "[J") (by decide +kernel)
  have w_5 := hts (.constantLong RX3 34 (-9223372036854775808)) (by decide +kernel)
  have hl := lv_entry ([.ref h, .int rg]) (n := 4) (Nat.le_of_ble_eq_true rfl)
  rw [lg_entry_eq]
  generalize (lg_sl ([.ref h, .int rg]) ++ List.replicate (4 - (lg_sl ([.ref h, .int rg])).length) Slot.unset).toArray = ls at hl ⊢
  have hl : lv_has ls 4 [(0, .ref h), (1, .int rg)] := hl
  refine lv_aload_n hx hb dX3_kind_0 rfl (lv_at hl 0 rfl) ?_
  refine va_get (v := .ref q1) (C := RX3) (T := TX3) (N := 13) hx hb hts in_X3 hown hK hP 0 rfl rfl 2 (by decide) w_1 (fun _ h9 => h9) rfl dX3_kind_1 ?_
  refine lv_iload_n hx hb dX3_kind_4 rfl (lv_at hl 1 rfl) ?_
  refine va_iald hx hb hK hP 1 0 rfl rfl hrg dX3_kind_5 ?_
  refine lv_ldc (v := 32768) hx hb hown w_3 dX3_kind_6 ?_
  refine lv_irem hx hb dX3_kind_8 (by decide) ?_
  refine lv_istore_n (lv' := [(2, .int ((tf rg.toNatClampNeg) - (tf rg.toNatClampNeg) / 32768 * 32768)), (0, .ref h), (1, .int rg)]) hx hb dX3_kind_9 rfl hl (by decide) rfl (fun ls hl => ?_)
  refine lv_aload_n hx hb dX3_kind_10 rfl (lv_at hl 1 rfl) ?_
  refine va_get (v := .ref q2) (C := RX3) (T := TX3) (N := 13) hx hb hts in_X3 hown hK hP 0 rfl rfl 3 (by decide) w_4 (fun _ h9 => h9) rfl dX3_kind_11 ?_
  refine lv_iload_n hx hb dX3_kind_14 rfl (lv_at hl 2 rfl) ?_
  refine va_lald hx hb hK hP 2 1 rfl rfl hrg dX3_kind_15 ?_
  refine lv_lconst (v := 0) hx hb dX3_kind_16 (by decide) ?_
  refine q_cut (v := bI (if (ff rg.toNatClampNeg) = 0 then true else (if (ff rg.toNatClampNeg) = (-9223372036854775808) then true else false))) (pcJ := 39) (rest := []) (fun J => ?_) ?_
  · refine q_cl_eq (tgt := 34) hx hb dX3_kind_17 dX3_kind_18 (by decide) (fun c_1 => ?_) (fun c_1 => ?_)
    · refine lv_iconst (v := 1) hx hb dX3_kind_34 (by decide) ?_
      refine lv_goto (tgt := 39) hx hb dX3_kind_35 (by decide) ?_
      exact J _ (by rw [if_pos c_1]; try rfl)
    · refine lv_aload_n hx hb dX3_kind_21 rfl (lv_at hl 1 rfl) ?_
      refine va_get (v := .ref q2) (C := RX3) (T := TX3) (N := 13) hx hb hts in_X3 hown hK hP 0 rfl rfl 3 (by decide) w_4 (fun _ h9 => h9) rfl dX3_kind_22 ?_
      refine lv_iload_n hx hb dX3_kind_25 rfl (lv_at hl 2 rfl) ?_
      refine va_lald hx hb hK hP 2 1 rfl rfl hrg dX3_kind_26 ?_
      refine lv_ldc2 (v := (-9223372036854775808)) hx hb hown w_5 dX3_kind_27 ?_
      refine q_cl_ne (tgt := 38) hx hb dX3_kind_30 dX3_kind_31 (by decide) (fun c_2 => ?_) (fun c_2 => ?_)
      · refine lv_iconst (v := 0) hx hb dX3_kind_38 (by decide) ?_
        exact J _ (by rw [if_neg c_1, if_neg c_2]; try rfl)
      · refine lv_iconst (v := 1) hx hb dX3_kind_34 (by decide) ?_
        refine lv_goto (tgt := 39) hx hb dX3_kind_35 (by decide) ?_
        exact J _ (by rw [if_neg c_1, if_pos c_2]; try rfl)
  refine lv_istore_n (lv' := [(3, .int (bI (if (ff rg.toNatClampNeg) = 0 then true else (if (ff rg.toNatClampNeg) = (-9223372036854775808) then true else false)))), (2, .int ((tf rg.toNatClampNeg) - (tf rg.toNatClampNeg) / 32768 * 32768)), (0, .ref h), (1, .int rg)]) hx hb dX3_kind_39 rfl hl (by decide) rfl (fun ls hl => ?_)
  refine lv_iload_n hx hb dX3_kind_40 rfl (lv_at hl 1 rfl) ?_
  refine lv_sipush (v := 32767) hx hb dX3_kind_41 (by decide) ?_
  refine lv_icmp_ne (tgt := 57) hx hb dX3_kind_44 (by decide) (fun c_3 => ?_) (fun c_3 => ?_)
  · refine lv_iload_n hx hb dX3_kind_57 rfl (lv_at hl 1 rfl) ?_
    refine lv_if_ne (tgt := 78) hx hb dX3_kind_58 (by decide) (fun c_4 => ?_) (fun c_4 => ?_)
    · refine lv_aload_n hx hb dX3_kind_78 rfl (lv_at hl 2 rfl) ?_
      refine va_get (v := .ref q2) (C := RX3) (T := TX3) (N := 13) hx hb hts in_X3 hown hK hP 0 rfl rfl 3 (by decide) w_4 (fun _ h9 => h9) rfl dX3_kind_79 ?_
      refine lv_iload_n hx hb dX3_kind_82 rfl (lv_at hl 3 rfl) ?_
      refine va_lald hx hb hK hP 2 1 rfl rfl hrg dX3_kind_83 ?_
      refine lv_lconst (v := 0) hx hb dX3_kind_84 (by decide) ?_
      refine q_cut (v := (if (ff rg.toNatClampNeg) < 0 then (3 : Int32) else (2 : Int32))) (pcJ := 94) (rest := []) (fun J => ?_) ?_
      · refine q_cl_ge (tgt := 93) hx hb dX3_kind_85 dX3_kind_86 (by decide) (fun c_5 => ?_) (fun c_5 => ?_)
        · refine lv_iconst (v := 2) hx hb dX3_kind_93 (by decide) ?_
          exact J _ (by rw [if_neg c_5]; try rfl)
        · refine lv_iconst (v := 3) hx hb dX3_kind_89 (by decide) ?_
          refine lv_goto (tgt := 94) hx hb dX3_kind_90 (by decide) ?_
          exact J _ (by rw [if_pos c_5]; try rfl)
      have hw : M_kind (tf rg.toNatClampNeg) (ff rg.toNatClampNeg) = (if (ff rg.toNatClampNeg) < 0 then (3 : Int32) else (2 : Int32)) := by unfold M_kind; rw [if_neg c_3, if_neg c_4]; try rfl
      exact W.iret hx hb hr (fun t9 ht hW => ⟨_, rfl, hw.symm, ht⟩) t_nil dX3_kind_94
    · refine lv_aload_n hx hb dX3_kind_61 rfl (lv_at hl 2 rfl) ?_
      refine va_get (v := .ref q2) (C := RX3) (T := TX3) (N := 13) hx hb hts in_X3 hown hK hP 0 rfl rfl 3 (by decide) w_4 (fun _ h9 => h9) rfl dX3_kind_62 ?_
      refine lv_iload_n hx hb dX3_kind_65 rfl (lv_at hl 3 rfl) ?_
      refine va_lald hx hb hK hP 2 1 rfl rfl hrg dX3_kind_66 ?_
      refine lv_lconst (v := 0) hx hb dX3_kind_67 (by decide) ?_
      refine q_cut (v := bI (if (ff rg.toNatClampNeg) = 0 then false else true)) (pcJ := 77) (rest := []) (fun J => ?_) ?_
      · refine q_cl_ne (tgt := 76) hx hb dX3_kind_68 dX3_kind_69 (by decide) (fun c_6 => ?_) (fun c_6 => ?_)
        · refine lv_iconst (v := 1) hx hb dX3_kind_76 (by decide) ?_
          exact J _ (by rw [if_neg c_6]; try rfl)
        · refine lv_iconst (v := 0) hx hb dX3_kind_72 (by decide) ?_
          refine lv_goto (tgt := 77) hx hb dX3_kind_73 (by decide) ?_
          exact J _ (by rw [if_pos c_6]; try rfl)
      have hw : M_kind (tf rg.toNatClampNeg) (ff rg.toNatClampNeg) = bI (if (ff rg.toNatClampNeg) = 0 then false else true) := by unfold M_kind; rw [if_neg c_3, if_pos c_4]; try rfl
      exact W.iret hx hb hr (fun t9 ht hW => ⟨_, rfl, hw.symm, ht⟩) t_nil dX3_kind_77
  · refine lv_iload_n hx hb dX3_kind_47 rfl (lv_at hl 0 rfl) ?_
    refine q_cut (v := (if bI (if (ff rg.toNatClampNeg) = 0 then true else (if (ff rg.toNatClampNeg) = (-9223372036854775808) then true else false)) = 0 then (5 : Int32) else (4 : Int32))) (pcJ := 56) (rest := []) (fun J => ?_) ?_
    · refine lv_if_eq (tgt := 55) hx hb dX3_kind_48 (by decide) (fun c_7 => ?_) (fun c_7 => ?_)
      · refine lv_iconst (v := 5) hx hb dX3_kind_55 (by decide) ?_
        exact J _ (by rw [if_pos c_7]; try rfl)
      · refine lv_iconst (v := 4) hx hb dX3_kind_51 (by decide) ?_
        refine lv_goto (tgt := 56) hx hb dX3_kind_52 (by decide) ?_
        exact J _ (by rw [if_neg c_7]; try rfl)
    have hw : M_kind (tf rg.toNatClampNeg) (ff rg.toNatClampNeg) = (if bI (if (ff rg.toNatClampNeg) = 0 then true else (if (ff rg.toNatClampNeg) = (-9223372036854775808) then true else false)) = 0 then (5 : Int32) else (4 : Int32)) := by unfold M_kind; rw [if_pos c_3]; try rfl
    exact W.iret hx hb hr (fun t9 ht hW => ⟨_, rfl, hw.symm, ht⟩) t_nil dX3_kind_56
def M_minus (t : Int32) : Bool :=
  (if t ≤ 32767 then false else true)
theorem kS_X3_minus : yX3_minus.cls ≠ "java/lang/invoke/MethodHandle" ∧ yX3_minus.cls ≠ "java/lang/invoke/VarHandle" ∧ (parseMethodDescriptor yX3_minus.desc).map (fun d => d.parameters.length) = some 1 := by decide +kernel
theorem kV_X3_minus : yX3_minus.cls = RX3 ∧ yX3_minus.cls ≠ "java/lang/invoke/MethodHandle" ∧ yX3_minus.cls ≠ "java/lang/invoke/VarHandle" ∧ (parseMethodDescriptor yX3_minus.desc).map (fun d => d.parameters.length) = some 1 := ⟨rfl, kS_X3_minus⟩
set_option maxHeartbeats 4000000 in
set_option maxRecDepth 100000 in
theorem c_X3_minus (l : Launch) (D : va_G) (h : Nat) (q1 : Nat) (q2 : Nat) (cA : ClassId) (cB : ClassId) (cd : Int32) (ct : Int32) (tf : Nat → Int32) (ff : Nat → Int64) (td : Int32) (an : Bool) (qb : Int32) (pa : Bool) (aT : Int32) (aF : Int64) (dg : Int64) (fi : Int32) (lo : Bool) (rg : Int32) (hrg : vp_in rg 8) : Met l yX3_minus wsX3_minus ({ frames := 0, cells := 0, slots := 0, locals := 0 } : Room) (va_Pc [.ref h, .int rg] (PB D (tRS cA cB) (cMd h q1 q2 cA cB cd ct tf ff td an qb pa aT aF dg fi lo))) (vp_Si (fun r => r = bI (M_minus (tf rg.toNatClampNeg)))) 0 0 (fun _ => False) := by
  refine Met.ofW (cc := cX3_minus) (maxL := 2) (ret := (some .boolean)) (by decide) rfl ?_
  intro p e s m args below meth c s₁ B hml hv
  obtain ⟨rfl, hP, hK⟩ := hv
  have hx := B.exec
  have hb := B.bytes
  have hr := B.returns
  have hts := atoms_spec (ws := wsX3_minus) B.pre
  have hown : s.vm.findClass RX3 = some m.cls := findClass_of_methodNamed B.named
  have hlocks := B.notSynchronized
  have w_1 := hts (.fieldLink RX3 13 "RealStepsModel" "top" "[I") (by decide +kernel)
  have in_X3 : ∀ w ∈ wsX30, w ∈ wsX3_minus := by decide +kernel
  have hl := lv_entry ([.ref h, .int rg]) (n := 2) (Nat.le_of_ble_eq_true rfl)
  rw [lg_entry_eq]
  generalize (lg_sl ([.ref h, .int rg]) ++ List.replicate (2 - (lg_sl ([.ref h, .int rg])).length) Slot.unset).toArray = ls at hl ⊢
  have hl : lv_has ls 2 [(0, .ref h), (1, .int rg)] := hl
  refine lv_aload_n hx hb dX3_minus_0 rfl (lv_at hl 0 rfl) ?_
  refine va_get (v := .ref q1) (C := RX3) (T := TX3) (N := 13) hx hb hts in_X3 hown hK hP 0 rfl rfl 2 (by decide) w_1 (fun _ h9 => h9) rfl dX3_minus_1 ?_
  refine lv_iload_n hx hb dX3_minus_4 rfl (lv_at hl 1 rfl) ?_
  refine va_iald hx hb hK hP 1 0 rfl rfl hrg dX3_minus_5 ?_
  refine lv_sipush (v := 32767) hx hb dX3_minus_6 (by decide) ?_
  refine q_cut (v := bI (if (tf rg.toNatClampNeg) ≤ 32767 then false else true)) (pcJ := 17) (rest := []) (fun J => ?_) ?_
  · refine lv_icmp_le (tgt := 16) hx hb dX3_minus_9 (by decide) (fun c_1 => ?_) (fun c_1 => ?_)
    · refine lv_iconst (v := 0) hx hb dX3_minus_16 (by decide) ?_
      exact J _ (by rw [if_pos c_1]; try rfl)
    · refine lv_iconst (v := 1) hx hb dX3_minus_12 (by decide) ?_
      refine lv_goto (tgt := 17) hx hb dX3_minus_13 (by decide) ?_
      exact J _ (by rw [if_neg c_1]; try rfl)
  have hw : M_minus (tf rg.toNatClampNeg) = (if (tf rg.toNatClampNeg) ≤ 32767 then false else true) := rfl
  exact W.zret hx hb hr (bI_nar _) (fun t9 ht hW => ⟨_, rfl, (congrArg bI hw).symm, ht⟩) t_nil dX3_minus_17
def M_nothing (t : Int32) (f : Int64) : Bool :=
  (if 3 ≤ (M_kind t f) then false else (if f = 0 then true else false))
theorem kS_X3_nothing : yX3_nothing.cls ≠ "java/lang/invoke/MethodHandle" ∧ yX3_nothing.cls ≠ "java/lang/invoke/VarHandle" ∧ (parseMethodDescriptor yX3_nothing.desc).map (fun d => d.parameters.length) = some 1 := by decide +kernel
theorem kV_X3_nothing : yX3_nothing.cls = RX3 ∧ yX3_nothing.cls ≠ "java/lang/invoke/MethodHandle" ∧ yX3_nothing.cls ≠ "java/lang/invoke/VarHandle" ∧ (parseMethodDescriptor yX3_nothing.desc).map (fun d => d.parameters.length) = some 1 := ⟨rfl, kS_X3_nothing⟩
set_option maxHeartbeats 4000000 in
set_option maxRecDepth 100000 in
theorem c_X3_nothing (l : Launch) (D : va_G) (h : Nat) (q1 : Nat) (q2 : Nat) (cA : ClassId) (cB : ClassId) (cd : Int32) (ct : Int32) (tf : Nat → Int32) (ff : Nat → Int64) (td : Int32) (an : Bool) (qb : Int32) (pa : Bool) (aT : Int32) (aF : Int64) (dg : Int64) (fi : Int32) (lo : Bool) (rg : Int32) (hrg : vp_in rg 8) : Met l yX3_nothing wsX3_nothing ({ frames := 1, cells := 0, slots := 0, locals := 23 } : Room) (va_Pc [.ref h, .int rg] (PB D (tRS cA cB) (cMd h q1 q2 cA cB cd ct tf ff td an qb pa aT aF dg fi lo))) (vp_Si (fun r => r = bI (M_nothing (tf rg.toNatClampNeg) (ff rg.toNatClampNeg)))) 0 0 (fun _ => False) := by
  refine Met.ofW (cc := cX3_nothing) (maxL := 2) (ret := (some .boolean)) (by decide) rfl ?_
  intro p e s m args below meth c s₁ B hml hv
  obtain ⟨rfl, hP, hK⟩ := hv
  have hx := B.exec
  have hb := B.bytes
  have hr := B.returns
  have hts := atoms_spec (ws := wsX3_nothing) B.pre
  have hown : s.vm.findClass RX3 = some m.cls := findClass_of_methodNamed B.named
  have hlocks := B.notSynchronized
  have w_1 := hts (.fieldLink RX3 17 "RealStepsModel" "fraction" "[J") (by decide +kernel)
  have in_X3 : ∀ w ∈ wsX30, w ∈ wsX3_nothing := by decide +kernel
  have hl := lv_entry ([.ref h, .int rg]) (n := 2) (Nat.le_of_ble_eq_true rfl)
  rw [lg_entry_eq]
  generalize (lg_sl ([.ref h, .int rg]) ++ List.replicate (2 - (lg_sl ([.ref h, .int rg])).length) Slot.unset).toArray = ls at hl ⊢
  have hl : lv_has ls 2 [(0, .ref h), (1, .int rg)] := hl
  refine lv_aload_n hx hb dX3_nothing_0 rfl (lv_at hl 0 rfl) ?_
  refine lv_iload_n hx hb dX3_nothing_1 rfl (lv_at hl 1 rfl) ?_
  refine vp_callSi (va_cr (va_runV (As := [.int rg]) (rest := []) ⟨hx, hb, hml, hown, hts⟩ (c_X3_kind l D h q1 q2 cA cB cd ct tf ff td an qb pa aT aF dg fi lo rg hrg) (cwV 1 hts gX3_nothing_X3_kind rfl rfl rfl kV_X3_kind ⟨Nat.le_of_ble_eq_true rfl, Nat.le_of_ble_eq_true rfl⟩) ⟨PB.blind, va_recv hK hP (ci := 2) (q0 := 0) rfl rfl, PB.pre hK hP⟩ rfl rfl hl.1 rfl (lv_room (Nat.le_of_ble_eq_true rfl)) dX3_nothing_2 ⟨Nat.le_of_ble_eq_true rfl, Nat.le_of_ble_eq_true rfl⟩)) (fun r9 e9 => ?_)
  rw [e9]
  refine lv_iconst (v := 3) hx hb dX3_nothing_5 (by decide) ?_
  refine q_cut (v := bI (if 3 ≤ (M_kind (tf rg.toNatClampNeg) (ff rg.toNatClampNeg)) then false else (if (ff rg.toNatClampNeg) = 0 then true else false))) (pcJ := 25) (rest := []) (fun J => ?_) ?_
  · refine lv_icmp_ge (tgt := 24) hx hb dX3_nothing_6 (by decide) (fun c_1 => ?_) (fun c_1 => ?_)
    · refine lv_iconst (v := 0) hx hb dX3_nothing_24 (by decide) ?_
      exact J _ (by rw [if_pos c_1]; try rfl)
    · refine lv_aload_n hx hb dX3_nothing_9 rfl (lv_at hl 0 rfl) ?_
      refine va_get (v := .ref q2) (C := RX3) (T := TX3) (N := 13) hx hb hts in_X3 hown hK hP 0 rfl rfl 3 (by decide) w_1 (fun _ h9 => h9) rfl dX3_nothing_10 ?_
      refine lv_iload_n hx hb dX3_nothing_13 rfl (lv_at hl 1 rfl) ?_
      refine va_lald hx hb hK hP 2 1 rfl rfl hrg dX3_nothing_14 ?_
      refine lv_lconst (v := 0) hx hb dX3_nothing_15 (by decide) ?_
      refine q_cl_ne (tgt := 24) hx hb dX3_nothing_16 dX3_nothing_17 (by decide) (fun c_2 => ?_) (fun c_2 => ?_)
      · refine lv_iconst (v := 0) hx hb dX3_nothing_24 (by decide) ?_
        exact J _ (by rw [if_neg c_1, if_neg c_2]; try rfl)
      · refine lv_iconst (v := 1) hx hb dX3_nothing_20 (by decide) ?_
        refine lv_goto (tgt := 25) hx hb dX3_nothing_21 (by decide) ?_
        exact J _ (by rw [if_neg c_1, if_pos c_2]; try rfl)
  have hw : M_nothing (tf rg.toNatClampNeg) (ff rg.toNatClampNeg) = (if 3 ≤ (M_kind (tf rg.toNatClampNeg) (ff rg.toNatClampNeg)) then false else (if (ff rg.toNatClampNeg) = 0 then true else false)) := rfl
  exact W.zret hx hb hr (bI_nar _) (fun t9 ht hW => ⟨_, rfl, (congrArg bI hw).symm, ht⟩) t_nil dX3_nothing_25
def M_unit (t : Int32) : Int32 :=
  ((if (t - t / 32768 * 32768) = 0 then (1 : Int32) else (t - t / 32768 * 32768)) - 16446)
theorem kS_X3_unit : yX3_unit.cls ≠ "java/lang/invoke/MethodHandle" ∧ yX3_unit.cls ≠ "java/lang/invoke/VarHandle" ∧ (parseMethodDescriptor yX3_unit.desc).map (fun d => d.parameters.length) = some 1 := by decide +kernel
theorem kV_X3_unit : yX3_unit.cls = RX3 ∧ yX3_unit.cls ≠ "java/lang/invoke/MethodHandle" ∧ yX3_unit.cls ≠ "java/lang/invoke/VarHandle" ∧ (parseMethodDescriptor yX3_unit.desc).map (fun d => d.parameters.length) = some 1 := ⟨rfl, kS_X3_unit⟩
set_option maxHeartbeats 4000000 in
set_option maxRecDepth 100000 in
theorem c_X3_unit (l : Launch) (D : va_G) (h : Nat) (q1 : Nat) (q2 : Nat) (cA : ClassId) (cB : ClassId) (cd : Int32) (ct : Int32) (tf : Nat → Int32) (ff : Nat → Int64) (td : Int32) (an : Bool) (qb : Int32) (pa : Bool) (aT : Int32) (aF : Int64) (dg : Int64) (fi : Int32) (lo : Bool) (rg : Int32) (hrg : vp_in rg 8) : Met l yX3_unit wsX3_unit ({ frames := 0, cells := 0, slots := 0, locals := 0 } : Room) (va_Pc [.ref h, .int rg] (PB D (tRS cA cB) (cMd h q1 q2 cA cB cd ct tf ff td an qb pa aT aF dg fi lo))) (vp_Si (fun r => r = M_unit (tf rg.toNatClampNeg))) 0 0 (fun _ => False) := by
  refine Met.ofW (cc := cX3_unit) (maxL := 2) (ret := (some .int)) (by decide) rfl ?_
  intro p e s m args below meth c s₁ B hml hv
  obtain ⟨rfl, hP, hK⟩ := hv
  have hx := B.exec
  have hb := B.bytes
  have hr := B.returns
  have hts := atoms_spec (ws := wsX3_unit) B.pre
  have hown : s.vm.findClass RX3 = some m.cls := findClass_of_methodNamed B.named
  have hlocks := B.notSynchronized
  have w_1 := hts (.fieldLink RX3 13 "RealStepsModel" "top" "[I") (by decide +kernel)
  have in_X3 : ∀ w ∈ wsX30, w ∈ wsX3_unit := by decide +kernel
  have w_3 := hts (.constant RX3 33 (32768)) (by decide +kernel)
  have hl := lv_entry ([.ref h, .int rg]) (n := 2) (Nat.le_of_ble_eq_true rfl)
  rw [lg_entry_eq]
  generalize (lg_sl ([.ref h, .int rg]) ++ List.replicate (2 - (lg_sl ([.ref h, .int rg])).length) Slot.unset).toArray = ls at hl ⊢
  have hl : lv_has ls 2 [(0, .ref h), (1, .int rg)] := hl
  refine lv_aload_n hx hb dX3_unit_0 rfl (lv_at hl 0 rfl) ?_
  refine va_get (v := .ref q1) (C := RX3) (T := TX3) (N := 13) hx hb hts in_X3 hown hK hP 0 rfl rfl 2 (by decide) w_1 (fun _ h9 => h9) rfl dX3_unit_1 ?_
  refine lv_iload_n hx hb dX3_unit_4 rfl (lv_at hl 1 rfl) ?_
  refine va_iald hx hb hK hP 1 0 rfl rfl hrg dX3_unit_5 ?_
  refine lv_ldc (v := 32768) hx hb hown w_3 dX3_unit_6 ?_
  refine lv_irem hx hb dX3_unit_8 (by decide) ?_
  refine q_cut (v := (if ((tf rg.toNatClampNeg) - (tf rg.toNatClampNeg) / 32768 * 32768) = 0 then (1 : Int32) else ((tf rg.toNatClampNeg) - (tf rg.toNatClampNeg) / 32768 * 32768))) (pcJ := 25) (rest := []) (fun J => ?_) ?_
  · refine lv_if_ne (tgt := 16) hx hb dX3_unit_9 (by decide) (fun c_1 => ?_) (fun c_1 => ?_)
    · refine lv_aload_n hx hb dX3_unit_16 rfl (lv_at hl 0 rfl) ?_
      refine va_get (v := .ref q1) (C := RX3) (T := TX3) (N := 13) hx hb hts in_X3 hown hK hP 0 rfl rfl 2 (by decide) w_1 (fun _ h9 => h9) rfl dX3_unit_17 ?_
      refine lv_iload_n hx hb dX3_unit_20 rfl (lv_at hl 1 rfl) ?_
      refine va_iald hx hb hK hP 1 0 rfl rfl hrg dX3_unit_21 ?_
      refine lv_ldc (v := 32768) hx hb hown w_3 dX3_unit_22 ?_
      refine lv_irem hx hb dX3_unit_24 (by decide) ?_
      exact J _ (by rw [if_neg c_1]; try rfl)
    · refine lv_iconst (v := 1) hx hb dX3_unit_12 (by decide) ?_
      refine lv_goto (tgt := 25) hx hb dX3_unit_13 (by decide) ?_
      exact J _ (by rw [if_pos c_1]; try rfl)
  refine lv_sipush (v := 16446) hx hb dX3_unit_25 (by decide) ?_
  refine lv_isub hx hb dX3_unit_28 ?_
  have hw : M_unit (tf rg.toNatClampNeg) = ((if ((tf rg.toNatClampNeg) - (tf rg.toNatClampNeg) / 32768 * 32768) = 0 then (1 : Int32) else ((tf rg.toNatClampNeg) - (tf rg.toNatClampNeg) / 32768 * 32768)) - 16446) := rfl
  exact W.iret hx hb hr (fun t9 ht hW => ⟨_, rfl, hw.symm, ht⟩) t_nil dX3_unit_29
def M_less (i : Int64) (j : Int64) : Bool :=
  (if (i + (-9223372036854775808)) < (j + (-9223372036854775808)) then true else false)
theorem kS_X3_lessSize : yX3_lessSize.cls ≠ "java/lang/invoke/MethodHandle" ∧ yX3_lessSize.cls ≠ "java/lang/invoke/VarHandle" ∧ (parseMethodDescriptor yX3_lessSize.desc).map (fun d => d.parameters.length) = some 2 := by decide +kernel
set_option maxHeartbeats 4000000 in
set_option maxRecDepth 100000 in
theorem c_X3_lessSize (l : Launch) (i : Int64) (j : Int64) : Met l yX3_lessSize wsX3_lessSize ({ frames := 0, cells := 0, slots := 0, locals := 0 } : Room) (va_Pc [.long i, .long j] (fun _ => True)) (vp_Si (fun r => r = bI (M_less i j))) 0 0 (fun _ => False) := by
  refine Met.ofW (cc := cX3_lessSize) (maxL := 4) (ret := (some .boolean)) (by decide) rfl ?_
  intro p e s m args below meth c s₁ B hml hv
  obtain ⟨rfl, -⟩ := hv
  have hx := B.exec
  have hb := B.bytes
  have hr := B.returns
  have hts := atoms_spec (ws := wsX3_lessSize) B.pre
  have hown : s.vm.findClass RX3 = some m.cls := findClass_of_methodNamed B.named
  have hlocks := B.notSynchronized
  have w_1 := hts (.constantLong RX3 34 (-9223372036854775808)) (by decide +kernel)
  have hl := lv_entry ([.long i, .long j]) (n := 4) (Nat.le_of_ble_eq_true rfl)
  rw [lg_entry_eq]
  generalize (lg_sl ([.long i, .long j]) ++ List.replicate (4 - (lg_sl ([.long i, .long j])).length) Slot.unset).toArray = ls at hl ⊢
  have hl : lv_has ls 4 [(0, .long i), (2, .long j)] := hl
  refine lv_lload_n hx hb dX3_lessSize_0 rfl (lv_at hl 0 rfl) ?_
  refine lv_ldc2 (v := (-9223372036854775808)) hx hb hown w_1 dX3_lessSize_1 ?_
  refine lv_ladd hx hb dX3_lessSize_4 ?_
  refine lv_lload_n hx hb dX3_lessSize_5 rfl (lv_at hl 1 rfl) ?_
  refine lv_ldc2 (v := (-9223372036854775808)) hx hb hown w_1 dX3_lessSize_6 ?_
  refine lv_ladd hx hb dX3_lessSize_9 ?_
  refine q_cut (v := bI (if (i + (-9223372036854775808)) < (j + (-9223372036854775808)) then true else false)) (pcJ := 19) (rest := []) (fun J => ?_) ?_
  · refine q_cl_ge (tgt := 18) hx hb dX3_lessSize_10 dX3_lessSize_11 (by decide) (fun c_1 => ?_) (fun c_1 => ?_)
    · refine lv_iconst (v := 0) hx hb dX3_lessSize_18 (by decide) ?_
      exact J _ (by rw [if_neg c_1]; try rfl)
    · refine lv_iconst (v := 1) hx hb dX3_lessSize_14 (by decide) ?_
      refine lv_goto (tgt := 19) hx hb dX3_lessSize_15 (by decide) ?_
      exact J _ (by rw [if_pos c_1]; try rfl)
  have hw : M_less i j = (if (i + (-9223372036854775808)) < (j + (-9223372036854775808)) then true else false) := rfl
  exact W.zret hx hb hr (bI_nar _) (fun t9 ht hW => ⟨_, rfl, (congrArg bI hw).symm, ht⟩) t_nil dX3_lessSize_19
def M_apL  : Nat → Int64 → Int32 → Int64 × Int32
  | 0, v1, v2 => (v1, v2)
  | n + 1, v1, v2 => if 0 < v1 then (M_apL n (2 * v1) (v2 - 1))
    else (v1, v2)
theorem M_apL_S  (n : Nat) (v1 : Int64) (v2 : Int32) : M_apL (n + 1) v1 v2 = (if 0 < v1 then (M_apL n (2 * v1) (v2 - 1))
    else (v1, v2)) := rfl
def M_apart (t : Int32) (f : Int64) : Int64 × Int32 :=
  tup2 (M_apL (64) f ((M_unit t) + 63)) (fun v1 v2 =>
    (v1, v2))
theorem kS_X3_apart : yX3_apart.cls ≠ "java/lang/invoke/MethodHandle" ∧ yX3_apart.cls ≠ "java/lang/invoke/VarHandle" ∧ (parseMethodDescriptor yX3_apart.desc).map (fun d => d.parameters.length) = some 1 := by decide +kernel
theorem kV_X3_apart : yX3_apart.cls = RX3 ∧ yX3_apart.cls ≠ "java/lang/invoke/MethodHandle" ∧ yX3_apart.cls ≠ "java/lang/invoke/VarHandle" ∧ (parseMethodDescriptor yX3_apart.desc).map (fun d => d.parameters.length) = some 1 := ⟨rfl, kS_X3_apart⟩
set_option maxHeartbeats 4000000 in
set_option maxRecDepth 100000 in
theorem c_X3_apart (l : Launch) (D : va_G) (h : Nat) (q1 : Nat) (q2 : Nat) (cA : ClassId) (cB : ClassId) (cd : Int32) (ct : Int32) (tf : Nat → Int32) (ff : Nat → Int64) (td : Int32) (an : Bool) (qb : Int32) (pa : Bool) (aT : Int32) (aF : Int64) (dg : Int64) (fi : Int32) (lo : Bool) (rg : Int32) (sz : Nat) (hrg : vp_in rg 8) : Met l yX3_apart wsX3_apart ({ frames := 1, cells := 0, slots := 0, locals := 21 } : Room) (va_Pc [.ref h, .int rg] (MMB D (tRS cA cB) (cMd h q1 q2 cA cB cd ct tf ff td an qb pa aT aF dg fi lo) sz)) (va_Qv (fun (_ : Unit) => True) (fun _ t => ∃ (w_dg : Int64) (w_fi : Int32), M_apart (tf rg.toNatClampNeg) (ff rg.toNatClampNeg) = (w_dg, w_fi) ∧ va_P D vwCl (cMd h q1 q2 cA cB cd ct tf ff td an qb pa aT aF w_dg w_fi lo) t.heap ∧ va_D (va_A (cMd h q1 q2 cA cB cd ct tf ff td an qb pa aT aF dg fi lo) sz) (cMd h q1 q2 cA cB cd ct tf ff td an qb pa aT aF w_dg w_fi lo)) (va_A (cMd h q1 q2 cA cB cd ct tf ff td an qb pa aT aF dg fi lo) sz)) 0 0 (va_A (cMd h q1 q2 cA cB cd ct tf ff td an qb pa aT aF dg fi lo) sz) := by
  refine Met.ofW (cc := cX3_apart) (maxL := 2) (ret := none) (by decide) rfl ?_
  intro p e s m args below meth c s₁ B hml hv
  obtain ⟨rfl, hsz, hP, hK, hD0⟩ := hv
  have hx := B.exec
  have hb := B.bytes
  have hr := B.returns
  have hts := atoms_spec (ws := wsX3_apart) B.pre
  have hown : s.vm.findClass RX3 = some m.cls := findClass_of_methodNamed B.named
  have hlocks := B.notSynchronized
  have w_1 := hts (.fieldLink RX3 17 "RealStepsModel" "fraction" "[J") (by decide +kernel)
  have in_X3 : ∀ w ∈ wsX30, w ∈ wsX3_apart := by decide +kernel
  have w_3 := hts (.fieldLink RX3 50 "RealStepsModel" "digits" "J") (by decide +kernel)
  have w_4 := hts (.fieldLink RX3 57 "RealStepsModel" "first" "I") (by decide +kernel)
  have w_5 := hts (.constantLong RX3 60 (2)) (by decide +kernel)
  subst hsz
  have hD := hD0.self (sz := s.heap.size)
  generalize hAe : va_A (cMd h q1 q2 cA cB cd ct tf ff td an qb pa aT aF dg fi lo) s.heap.size = A at hD ⊢
  have hA : ∀ q : Nat, s.heap.size ≤ q → A q := fun q h => by rw [← hAe]; exact Or.inr h
  have hS : va_S A s.heap s.heap [] := va_S.rf
  have hP : va_P D vwCl (cMd h q1 q2 cA cB cd ct tf ff td an qb pa aT aF dg fi lo) s.heap := hP
  have hl := lv_entry ([.ref h, .int rg]) (n := 2) (Nat.le_of_ble_eq_true rfl)
  rw [lg_entry_eq]
  generalize (lg_sl ([.ref h, .int rg]) ++ List.replicate (2 - (lg_sl ([.ref h, .int rg])).length) Slot.unset).toArray = ls at hl ⊢
  have hl : lv_has ls 2 [(0, .ref h), (1, .int rg)] := hl
  refine lv_aload_n hx hb dX3_apart_0 rfl (lv_at hl 0 rfl) ?_
  refine lv_aload_n hx hb dX3_apart_1 rfl (lv_at hl 0 rfl) ?_
  refine va_get (v := .ref q2) (C := RX3) (T := TX3) (N := 13) hx hb hts in_X3 hown hK hP 0 rfl rfl 3 (by decide) w_1 (fun _ h9 => h9) rfl dX3_apart_2 ?_
  refine lv_iload_n hx hb dX3_apart_5 rfl (lv_at hl 1 rfl) ?_
  refine va_lald hx hb hK hP 2 1 rfl rfl hrg dX3_apart_6 ?_
  refine va_put (v := .long (ff rg.toNatClampNeg)) (ty := .long) (C := RX3) (T := TX3) (N := 13) hx hb hts in_X3 tyX3 tyX3_ok nmX3 hown hK hP hD hS 0 rfl rfl 10 (by decide) w_3 (fun _ h9 => h9) rfl (tyX3_ok 10 (by decide)) rfl rfl (Nat.le_of_ble_eq_true rfl) dX3_apart_7 (fun H locs hP hD hS => ?_)
  have hP : va_P D vwCl (cMd h q1 q2 cA cB cd ct tf ff td an qb pa aT aF (ff rg.toNatClampNeg) fi lo) H := hP
  have hD : va_D A (cMd h q1 q2 cA cB cd ct tf ff td an qb pa aT aF (ff rg.toNatClampNeg) fi lo) := hD
  refine lv_aload_n hx hb dX3_apart_10 rfl (lv_at hl 0 rfl) ?_
  refine lv_aload_n hx hb dX3_apart_11 rfl (lv_at hl 0 rfl) ?_
  refine lv_iload_n hx hb dX3_apart_12 rfl (lv_at hl 1 rfl) ?_
  refine vp_callSi (va_cr (va_runV (As := [.int rg]) (rest := [.ref h]) ⟨hx, hb, hml, hown, hts⟩ (c_X3_unit l D h q1 q2 cA cB cd ct tf ff td an qb pa aT aF (ff rg.toNatClampNeg) fi lo rg hrg) (cwV 1 hts gX3_apart_X3_unit rfl rfl rfl kV_X3_unit ⟨Nat.le_of_ble_eq_true rfl, Nat.le_of_ble_eq_true rfl⟩) ⟨PB.blind, va_recv hK hP (ci := 2) (q0 := 0) rfl rfl, PB.pre hK hP⟩ rfl rfl hl.1 rfl (lv_room (Nat.le_of_ble_eq_true rfl)) dX3_apart_13 ⟨Nat.le_of_ble_eq_true rfl, Nat.le_of_ble_eq_true rfl⟩)) (fun r9 e9 => ?_)
  rw [e9]
  refine lv_bipush (v := 63) hx hb dX3_apart_16 (by decide) ?_
  refine lv_iadd hx hb dX3_apart_18 ?_
  refine va_put (v := .int ((M_unit (tf rg.toNatClampNeg)) + 63)) (ty := .int) (C := RX3) (T := TX3) (N := 13) hx hb hts in_X3 tyX3 tyX3_ok nmX3 hown hK hP hD hS 0 rfl rfl 11 (by decide) w_4 (fun _ h9 => h9) rfl (tyX3_ok 11 (by decide)) rfl rfl (Nat.le_of_ble_eq_true rfl) dX3_apart_19 (fun H locs hP hD hS => ?_)
  have hP : va_P D vwCl (cMd h q1 q2 cA cB cd ct tf ff td an qb pa aT aF (ff rg.toNatClampNeg) ((M_unit (tf rg.toNatClampNeg)) + 63) lo) H := hP
  have hD : va_D A (cMd h q1 q2 cA cB cd ct tf ff td an qb pa aT aF (ff rg.toNatClampNeg) ((M_unit (tf rg.toNatClampNeg)) + 63) lo) := hD
  have EXIT : ∀ (v1 : Int64) (v2 : Int32), M_apL (64) (ff rg.toNatClampNeg) ((M_unit (tf rg.toNatClampNeg)) + 63) = (v1, v2) → ∀ (H : Heap) (locs : List Loc) (ls : Array Slot), va_P D vwCl (cMd h q1 q2 cA cB cd ct tf ff td an qb pa aT aF v1 v2 lo) H → va_D A (cMd h q1 q2 cA cB cd ct tf ff td an qb pa aT aF v1 v2 lo) → va_S A s.heap H locs → lv_has ls 2 [(0, .ref h), (1, .int rg)] → W p l e (headSpec wsX3_apart ({ frames := 1, cells := 0, slots := 0, locals := 21 } : Room)).room s m ([.ref h, .int rg]).toArray below meth c H locs 0 0 (MQ below (va_Qv (fun (_ : Unit) => True) (fun _ t => ∃ (w_dg : Int64) (w_fi : Int32), M_apart (tf rg.toNatClampNeg) (ff rg.toNatClampNeg) = (w_dg, w_fi) ∧ va_P D vwCl (cMd h q1 q2 cA cB cd ct tf ff td an qb pa aT aF w_dg w_fi lo) t.heap ∧ va_D A (cMd h q1 q2 cA cB cd ct tf ff td an qb pa aT aF w_dg w_fi lo)) A) ([.ref h, .int rg]).toArray s 0 0 A) (F0 m 56 ls []) := by
    intro v1 v2 e_1 H locs ls hP hD hS hl
    have hw : M_apart (tf rg.toNatClampNeg) (ff rg.toNatClampNeg) = (v1, v2) := by unfold M_apart; rw [tup2_e e_1]; try rfl
    exact W.vret hx hb hr (fun t9 ht hW => ⟨⟨(), rfl, trivial, ⟨v1, v2, hw, by rw [ht]; exact hP, hD⟩⟩, hS.F ht⟩) hS.2.2 dX3_apart_56
  have LOOP : ∀ (n : Nat) (v1 : Int64) (v2 : Int32), mu_d v1 < n → M_apL n v1 v2 = M_apL (64) (ff rg.toNatClampNeg) ((M_unit (tf rg.toNatClampNeg)) + 63) → ∀ (H : Heap) (locs : List Loc) (ls : Array Slot), va_P D vwCl (cMd h q1 q2 cA cB cd ct tf ff td an qb pa aT aF v1 v2 lo) H → va_D A (cMd h q1 q2 cA cB cd ct tf ff td an qb pa aT aF v1 v2 lo) → va_S A s.heap H locs → lv_has ls 2 [(0, .ref h), (1, .int rg)] → W p l e (headSpec wsX3_apart ({ frames := 1, cells := 0, slots := 0, locals := 21 } : Room)).room s m ([.ref h, .int rg]).toArray below meth c H locs 0 0 (MQ below (va_Qv (fun (_ : Unit) => True) (fun _ t => ∃ (w_dg : Int64) (w_fi : Int32), M_apart (tf rg.toNatClampNeg) (ff rg.toNatClampNeg) = (w_dg, w_fi) ∧ va_P D vwCl (cMd h q1 q2 cA cB cd ct tf ff td an qb pa aT aF w_dg w_fi lo) t.heap ∧ va_D A (cMd h q1 q2 cA cB cd ct tf ff td an qb pa aT aF w_dg w_fi lo)) A) ([.ref h, .int rg]).toArray s 0 0 A) (F0 m 22 ls []) := by
    intro n
    induction n with
    | zero => intro v1 v2 hmu; exact absurd hmu (Nat.not_lt_zero _)
    | succ n ih =>
      intro v1 v2 hmu hF H locs ls hP hD hS hl
      refine lv_aload_n hx hb dX3_apart_22 rfl (lv_at hl 0 rfl) ?_
      refine va_get (v := .long v1) (C := RX3) (T := TX3) (N := 13) hx hb hts in_X3 hown hK hP 0 rfl rfl 10 (by decide) w_3 (fun _ h9 => h9) rfl dX3_apart_23 ?_
      refine lv_lconst (v := 0) hx hb dX3_apart_26 (by decide) ?_
      refine q_cl_le (tgt := 56) hx hb dX3_apart_27 dX3_apart_28 (by decide) (fun c_2 => ?_) (fun c_2 => ?_)
      · rw [M_apL_S  n v1 v2] at hF; rw [if_neg c_2] at hF
        exact EXIT v1 v2 hF.symm H locs ls hP hD hS (lv_sub hl [0, 1] rfl)
      · refine lv_aload_n hx hb dX3_apart_31 rfl (lv_at hl 0 rfl) ?_
        refine lv_ldc2 (v := 2) hx hb hown w_5 dX3_apart_32 ?_
        refine lv_aload_n hx hb dX3_apart_35 rfl (lv_at hl 0 rfl) ?_
        refine va_get (v := .long v1) (C := RX3) (T := TX3) (N := 13) hx hb hts in_X3 hown hK hP 0 rfl rfl 10 (by decide) w_3 (fun _ h9 => h9) rfl dX3_apart_36 ?_
        refine lv_lmul hx hb dX3_apart_39 ?_
        refine va_put (v := .long (2 * v1)) (ty := .long) (C := RX3) (T := TX3) (N := 13) hx hb hts in_X3 tyX3 tyX3_ok nmX3 hown hK hP hD hS 0 rfl rfl 10 (by decide) w_3 (fun _ h9 => h9) rfl (tyX3_ok 10 (by decide)) rfl rfl (Nat.le_of_ble_eq_true rfl) dX3_apart_40 (fun H locs hP hD hS => ?_)
        have hP : va_P D vwCl (cMd h q1 q2 cA cB cd ct tf ff td an qb pa aT aF (2 * v1) v2 lo) H := hP
        have hD : va_D A (cMd h q1 q2 cA cB cd ct tf ff td an qb pa aT aF (2 * v1) v2 lo) := hD
        refine lv_aload_n hx hb dX3_apart_43 rfl (lv_at hl 0 rfl) ?_
        refine lv_dup hx hb dX3_apart_44 rfl ?_
        refine va_get (v := .int v2) (C := RX3) (T := TX3) (N := 13) hx hb hts in_X3 hown hK hP 0 rfl rfl 11 (by decide) w_4 (fun _ h9 => h9) rfl dX3_apart_45 ?_
        refine lv_iconst (v := 1) hx hb dX3_apart_48 (by decide) ?_
        refine lv_isub hx hb dX3_apart_49 ?_
        refine va_put (v := .int (v2 - 1)) (ty := .int) (C := RX3) (T := TX3) (N := 13) hx hb hts in_X3 tyX3 tyX3_ok nmX3 hown hK hP hD hS 0 rfl rfl 11 (by decide) w_4 (fun _ h9 => h9) rfl (tyX3_ok 11 (by decide)) rfl rfl (Nat.le_of_ble_eq_true rfl) dX3_apart_50 (fun H locs hP hD hS => ?_)
        have hP : va_P D vwCl (cMd h q1 q2 cA cB cd ct tf ff td an qb pa aT aF (2 * v1) (v2 - 1) lo) H := hP
        have hD : va_D A (cMd h q1 q2 cA cB cd ct tf ff td an qb pa aT aF (2 * v1) (v2 - 1) lo) := hD
        refine lv_goto (tgt := 22) hx hb dX3_apart_53 (by decide) ?_
        exact ih (2 * v1) (v2 - 1) (mu_go (mu_d2 c_2) hmu) (by rw [← hF, M_apL_S  n v1 v2, if_pos c_2]) H locs ls hP hD hS (lv_sub hl [0, 1] rfl)
  exact LOOP (64) (ff rg.toNatClampNeg) ((M_unit (tf rg.toNatClampNeg)) + 63) (mu_d64 _) rfl H _ ls hP hD hS (lv_sub hl [0, 1] rfl)
theorem M_apL_fi : ∀ (n : Nat) (d : Int64) (k : Int32), -60000 + (n : Int) ≤ k.toInt → k.toInt ≤ 20000 → (M_apL n d k).2.toInt ≤ 20000
  | 0, d, k, _, h => h
  | n + 1, d, k, h1, h => by
    rw [M_apL_S]
    have h3 : (1 : Int32).toInt = 1 := rfl
    have e : (k - 1).toInt = k.toInt - 1 := by rw [fb_subI (by omega) (by omega), h3]
    split
    · exact M_apL_fi n _ _ (by omega) (by omega)
    · exact h
theorem M_unit_rng (t : Int32) : -49214 ≤ (M_unit t).toInt ∧ (M_unit t).toInt ≤ 16322 := by
  have h1 : (1 : Int32).toInt = 1 := rfl
  have h2 : (16446 : Int32).toInt = 16446 := rfl
  have h3 : (32768 : Int32).toInt = 32768 := rfl
  have ht := fb_rng t
  have hd : (t / 32768).toInt = t.toInt.tdiv 32768 := by rw [Int32.toInt_div_of_ne_right _ _ (by decide), h3]
  have hmd := Int.mul_tdiv_add_tmod t.toInt 32768
  have hb := tmod_bounds (a := t.toInt) (M := 32768) (by decide)
  have hs1 : 0 ≤ t.toInt → 0 ≤ t.toInt.tmod 32768 := fun h => Int.tmod_nonneg _ h
  have hs2 : t.toInt ≤ 0 → t.toInt.tmod 32768 ≤ 0 := fun h => by have h2 := Int.tmod_nonneg (a := -t.toInt) (32768 : Int) (by omega); rw [Int.neg_tmod] at h2; omega
  have hp : (t / 32768 * 32768).toInt = (t / 32768).toInt * 32768 := by
    rw [fb_mulI, h3]
    · rw [h3, hd]
      rcases Int.le_total 0 t.toInt with h | h
      · have := hs1 h; omega
      · have := hs2 h; omega
    · rw [h3, hd]
      rcases Int.le_total 0 t.toInt with h | h
      · have := hs1 h; omega
      · have := hs2 h; omega
  have hr : (t - t / 32768 * 32768).toInt = t.toInt.tmod 32768 := by
    rw [fb_subI (by rw [hp, hd]; omega) (by rw [hp, hd]; omega), hp, hd]; omega
  unfold M_unit
  split
  · rw [fb_subI (by omega) (by omega)]; omega
  · rw [fb_subI (by omega) (by omega)]; omega
theorem M_apart_fi {t : Int32} {f d : Int64} {k : Int32} (h : M_apart t f = (d, k)) : k.toInt < 2147483647 := by
  have hu := M_unit_rng t
  have h3 : (63 : Int32).toInt = 63 := rfl
  have e : (M_unit t + 63).toInt = (M_unit t).toInt + 63 := by rw [fb_addI (by omega) (by omega), h3]
  have hk := M_apL_fi 64 f (M_unit t + 63) (by omega) (by omega)
  have e2 : (M_apL 64 f (M_unit t + 63)).2 = k := by
    unfold M_apart at h
    exact congrArg Prod.snd h
  rw [e2] at hk
  omega
def M_answer (tp : Int32) (fr : Int64) : Bool × Int32 × Int64 :=
  (true, tp, fr)
theorem kS_X3_answer : yX3_answer.cls ≠ "java/lang/invoke/MethodHandle" ∧ yX3_answer.cls ≠ "java/lang/invoke/VarHandle" ∧ (parseMethodDescriptor yX3_answer.desc).map (fun d => d.parameters.length) = some 2 := by decide +kernel
theorem kV_X3_answer : yX3_answer.cls = RX3 ∧ yX3_answer.cls ≠ "java/lang/invoke/MethodHandle" ∧ yX3_answer.cls ≠ "java/lang/invoke/VarHandle" ∧ (parseMethodDescriptor yX3_answer.desc).map (fun d => d.parameters.length) = some 2 := ⟨rfl, kS_X3_answer⟩
set_option maxHeartbeats 4000000 in
set_option maxRecDepth 100000 in
theorem c_X3_answer (l : Launch) (D : va_G) (h : Nat) (q1 : Nat) (q2 : Nat) (cA : ClassId) (cB : ClassId) (cd : Int32) (ct : Int32) (tf : Nat → Int32) (ff : Nat → Int64) (td : Int32) (an : Bool) (qb : Int32) (pa : Bool) (aT : Int32) (aF : Int64) (dg : Int64) (fi : Int32) (lo : Bool) (tp : Int32) (fr : Int64) (sz : Nat) : Met l yX3_answer wsX3_answer ({ frames := 0, cells := 0, slots := 0, locals := 0 } : Room) (va_Pc [.ref h, .int tp, .long fr] (MMB D (tRS cA cB) (cMd h q1 q2 cA cB cd ct tf ff td an qb pa aT aF dg fi lo) sz)) (va_Qv (fun (_ : Unit) => True) (fun _ t => ∃ (w_an : Bool) (w_aT : Int32) (w_aF : Int64), M_answer tp fr = (w_an, w_aT, w_aF) ∧ va_P D vwCl (cMd h q1 q2 cA cB cd ct tf ff td w_an qb pa w_aT w_aF dg fi lo) t.heap ∧ va_D (va_A (cMd h q1 q2 cA cB cd ct tf ff td an qb pa aT aF dg fi lo) sz) (cMd h q1 q2 cA cB cd ct tf ff td w_an qb pa w_aT w_aF dg fi lo)) (va_A (cMd h q1 q2 cA cB cd ct tf ff td an qb pa aT aF dg fi lo) sz)) 0 0 (va_A (cMd h q1 q2 cA cB cd ct tf ff td an qb pa aT aF dg fi lo) sz) := by
  refine Met.ofW (cc := cX3_answer) (maxL := 4) (ret := none) (by decide) rfl ?_
  intro p e s m args below meth c s₁ B hml hv
  obtain ⟨rfl, hsz, hP, hK, hD0⟩ := hv
  have hx := B.exec
  have hb := B.bytes
  have hr := B.returns
  have hts := atoms_spec (ws := wsX3_answer) B.pre
  have hown : s.vm.findClass RX3 = some m.cls := findClass_of_methodNamed B.named
  have hlocks := B.notSynchronized
  have w_1 := hts (.fieldLink RX3 62 "RealStepsModel" "answerTop" "I") (by decide +kernel)
  have in_X3 : ∀ w ∈ wsX30, w ∈ wsX3_answer := by decide +kernel
  have w_3 := hts (.fieldLink RX3 65 "RealStepsModel" "answerFraction" "J") (by decide +kernel)
  have w_4 := hts (.fieldLink RX3 68 "RealStepsModel" "answered" "Z") (by decide +kernel)
  subst hsz
  have hD := hD0.self (sz := s.heap.size)
  generalize hAe : va_A (cMd h q1 q2 cA cB cd ct tf ff td an qb pa aT aF dg fi lo) s.heap.size = A at hD ⊢
  have hA : ∀ q : Nat, s.heap.size ≤ q → A q := fun q h => by rw [← hAe]; exact Or.inr h
  have hS : va_S A s.heap s.heap [] := va_S.rf
  have hP : va_P D vwCl (cMd h q1 q2 cA cB cd ct tf ff td an qb pa aT aF dg fi lo) s.heap := hP
  have hl := lv_entry ([.ref h, .int tp, .long fr]) (n := 4) (Nat.le_of_ble_eq_true rfl)
  rw [lg_entry_eq]
  generalize (lg_sl ([.ref h, .int tp, .long fr]) ++ List.replicate (4 - (lg_sl ([.ref h, .int tp, .long fr])).length) Slot.unset).toArray = ls at hl ⊢
  have hl : lv_has ls 4 [(0, .ref h), (1, .int tp), (2, .long fr)] := hl
  refine lv_aload_n hx hb dX3_answer_0 rfl (lv_at hl 0 rfl) ?_
  refine lv_iload_n hx hb dX3_answer_1 rfl (lv_at hl 1 rfl) ?_
  refine va_put (v := .int tp) (ty := .int) (C := RX3) (T := TX3) (N := 13) hx hb hts in_X3 tyX3 tyX3_ok nmX3 hown hK hP hD hS 0 rfl rfl 8 (by decide) w_1 (fun _ h9 => h9) rfl (tyX3_ok 8 (by decide)) rfl rfl (Nat.le_of_ble_eq_true rfl) dX3_answer_2 (fun H locs hP hD hS => ?_)
  have hP : va_P D vwCl (cMd h q1 q2 cA cB cd ct tf ff td an qb pa tp aF dg fi lo) H := hP
  have hD : va_D A (cMd h q1 q2 cA cB cd ct tf ff td an qb pa tp aF dg fi lo) := hD
  refine lv_aload_n hx hb dX3_answer_5 rfl (lv_at hl 0 rfl) ?_
  refine lv_lload_n hx hb dX3_answer_6 rfl (lv_at hl 2 rfl) ?_
  refine va_put (v := .long fr) (ty := .long) (C := RX3) (T := TX3) (N := 13) hx hb hts in_X3 tyX3 tyX3_ok nmX3 hown hK hP hD hS 0 rfl rfl 9 (by decide) w_3 (fun _ h9 => h9) rfl (tyX3_ok 9 (by decide)) rfl rfl (Nat.le_of_ble_eq_true rfl) dX3_answer_7 (fun H locs hP hD hS => ?_)
  have hP : va_P D vwCl (cMd h q1 q2 cA cB cd ct tf ff td an qb pa tp fr dg fi lo) H := hP
  have hD : va_D A (cMd h q1 q2 cA cB cd ct tf ff td an qb pa tp fr dg fi lo) := hD
  refine lv_aload_n hx hb dX3_answer_10 rfl (lv_at hl 0 rfl) ?_
  refine lv_iconst (v := 1) hx hb dX3_answer_11 (by decide) ?_
  refine va_put (v := .int 1) (ty := .boolean) (C := RX3) (T := TX3) (N := 13) hx hb hts in_X3 tyX3 tyX3_ok nmX3 hown hK hP hD hS 0 rfl rfl 5 (by decide) w_4 (fun _ h9 => h9) rfl (tyX3_ok 5 (by decide)) rfl rfl (Nat.le_of_ble_eq_true rfl) dX3_answer_12 (fun H locs hP hD hS => ?_)
  have hP : va_P D vwCl (cMd h q1 q2 cA cB cd ct tf ff td true qb pa tp fr dg fi lo) H := hP
  have hD : va_D A (cMd h q1 q2 cA cB cd ct tf ff td true qb pa tp fr dg fi lo) := hD
  have hw : M_answer tp fr = (true, tp, fr) := rfl
  exact W.vret hx hb hr (fun t9 ht hW => ⟨⟨(), rfl, trivial, ⟨true, tp, fr, hw, by rw [ht]; exact hP, hD⟩⟩, hS.F ht⟩) hS.2.2 dX3_answer_15
def M_tell (ct : Int32) (td : Int32) (wh : Int32) : Bool × Int32 :=
  ((M_masked ct wh), (if ((td / wh) - (td / wh) / 2 * 2) = 1 then td else (td + wh)))
theorem kS_X3_tell : yX3_tell.cls ≠ "java/lang/invoke/MethodHandle" ∧ yX3_tell.cls ≠ "java/lang/invoke/VarHandle" ∧ (parseMethodDescriptor yX3_tell.desc).map (fun d => d.parameters.length) = some 1 := by decide +kernel
theorem kV_X3_tell : yX3_tell.cls = RX3 ∧ yX3_tell.cls ≠ "java/lang/invoke/MethodHandle" ∧ yX3_tell.cls ≠ "java/lang/invoke/VarHandle" ∧ (parseMethodDescriptor yX3_tell.desc).map (fun d => d.parameters.length) = some 1 := ⟨rfl, kS_X3_tell⟩
set_option maxHeartbeats 4000000 in
set_option maxRecDepth 100000 in
theorem c_X3_tell (l : Launch) (D : va_G) (h : Nat) (q1 : Nat) (q2 : Nat) (cA : ClassId) (cB : ClassId) (cd : Int32) (ct : Int32) (tf : Nat → Int32) (ff : Nat → Int64) (td : Int32) (an : Bool) (qb : Int32) (pa : Bool) (aT : Int32) (aF : Int64) (dg : Int64) (fi : Int32) (lo : Bool) (wh : Int32) (sz : Nat) (hw : ¬ wh = 0) : Met l yX3_tell wsX3_tell ({ frames := 1, cells := 0, slots := 0, locals := 21 } : Room) (va_Pc [.ref h, .int wh] (MMB D (tRS cA cB) (cMd h q1 q2 cA cB cd ct tf ff td an qb pa aT aF dg fi lo) sz)) (va_Qi (fun (r : Int32) (u : Bool) => r = bI u) (fun u t => ∃ (w_td : Int32), M_tell ct td wh = (u, w_td) ∧ va_P D vwCl (cMd h q1 q2 cA cB cd ct tf ff w_td an qb pa aT aF dg fi lo) t.heap ∧ va_D (va_A (cMd h q1 q2 cA cB cd ct tf ff td an qb pa aT aF dg fi lo) sz) (cMd h q1 q2 cA cB cd ct tf ff w_td an qb pa aT aF dg fi lo)) (va_A (cMd h q1 q2 cA cB cd ct tf ff td an qb pa aT aF dg fi lo) sz)) 0 0 (va_A (cMd h q1 q2 cA cB cd ct tf ff td an qb pa aT aF dg fi lo) sz) := by
  refine Met.ofW (cc := cX3_tell) (maxL := 2) (ret := (some .boolean)) (by decide) rfl ?_
  intro p e s m args below meth c s₁ B hml hv
  obtain ⟨rfl, hsz, hP, hK, hD0⟩ := hv
  have hx := B.exec
  have hb := B.bytes
  have hr := B.returns
  have hts := atoms_spec (ws := wsX3_tell) B.pre
  have hown : s.vm.findClass RX3 = some m.cls := findClass_of_methodNamed B.named
  have hlocks := B.notSynchronized
  have w_1 := hts (.fieldLink RX3 72 "RealStepsModel" "told" "I") (by decide +kernel)
  have in_X3 : ∀ w ∈ wsX30, w ∈ wsX3_tell := by decide +kernel
  subst hsz
  have hD := hD0.self (sz := s.heap.size)
  generalize hAe : va_A (cMd h q1 q2 cA cB cd ct tf ff td an qb pa aT aF dg fi lo) s.heap.size = A at hD ⊢
  have hA : ∀ q : Nat, s.heap.size ≤ q → A q := fun q h => by rw [← hAe]; exact Or.inr h
  have hS : va_S A s.heap s.heap [] := va_S.rf
  have hP : va_P D vwCl (cMd h q1 q2 cA cB cd ct tf ff td an qb pa aT aF dg fi lo) s.heap := hP
  have hl := lv_entry ([.ref h, .int wh]) (n := 2) (Nat.le_of_ble_eq_true rfl)
  rw [lg_entry_eq]
  generalize (lg_sl ([.ref h, .int wh]) ++ List.replicate (2 - (lg_sl ([.ref h, .int wh])).length) Slot.unset).toArray = ls at hl ⊢
  have hl : lv_has ls 2 [(0, .ref h), (1, .int wh)] := hl
  refine lv_aload_n hx hb dX3_tell_0 rfl (lv_at hl 0 rfl) ?_
  refine lv_aload_n hx hb dX3_tell_1 rfl (lv_at hl 0 rfl) ?_
  refine va_get (v := .int td) (C := RX3) (T := TX3) (N := 13) hx hb hts in_X3 hown hK hP 0 rfl rfl 4 (by decide) w_1 (fun _ h9 => h9) rfl dX3_tell_2 ?_
  refine lv_iload_n hx hb dX3_tell_5 rfl (lv_at hl 1 rfl) ?_
  refine lv_idiv hx hb dX3_tell_6 hw ?_
  refine lv_iconst (v := 2) hx hb dX3_tell_7 (by decide) ?_
  refine lv_irem hx hb dX3_tell_8 (by decide) ?_
  refine lv_iconst (v := 1) hx hb dX3_tell_9 (by decide) ?_
  refine q_cut (v := (if ((td / wh) - (td / wh) / 2 * 2) = 1 then td else (td + wh))) (pcJ := 26) (rest := [.ref h]) (fun J => ?_) ?_
  · refine lv_icmp_ne (tgt := 20) hx hb dX3_tell_10 (by decide) (fun c_1 => ?_) (fun c_1 => ?_)
    · refine lv_aload_n hx hb dX3_tell_20 rfl (lv_at hl 0 rfl) ?_
      refine va_get (v := .int td) (C := RX3) (T := TX3) (N := 13) hx hb hts in_X3 hown hK hP 0 rfl rfl 4 (by decide) w_1 (fun _ h9 => h9) rfl dX3_tell_21 ?_
      refine lv_iload_n hx hb dX3_tell_24 rfl (lv_at hl 1 rfl) ?_
      refine lv_iadd hx hb dX3_tell_25 ?_
      exact J _ (by rw [if_neg c_1]; try rfl)
    · refine lv_aload_n hx hb dX3_tell_13 rfl (lv_at hl 0 rfl) ?_
      refine va_get (v := .int td) (C := RX3) (T := TX3) (N := 13) hx hb hts in_X3 hown hK hP 0 rfl rfl 4 (by decide) w_1 (fun _ h9 => h9) rfl dX3_tell_14 ?_
      refine lv_goto (tgt := 26) hx hb dX3_tell_17 (by decide) ?_
      exact J _ (by rw [if_pos c_1]; try rfl)
  refine va_put (v := .int (if ((td / wh) - (td / wh) / 2 * 2) = 1 then td else (td + wh))) (ty := .int) (C := RX3) (T := TX3) (N := 13) hx hb hts in_X3 tyX3 tyX3_ok nmX3 hown hK hP hD hS 0 rfl rfl 4 (by decide) w_1 (fun _ h9 => h9) rfl (tyX3_ok 4 (by decide)) rfl rfl (Nat.le_of_ble_eq_true rfl) dX3_tell_26 (fun H locs hP hD hS => ?_)
  have hP : va_P D vwCl (cMd h q1 q2 cA cB cd ct tf ff (if ((td / wh) - (td / wh) / 2 * 2) = 1 then td else (td + wh)) an qb pa aT aF dg fi lo) H := hP
  have hD : va_D A (cMd h q1 q2 cA cB cd ct tf ff (if ((td / wh) - (td / wh) / 2 * 2) = 1 then td else (td + wh)) an qb pa aT aF dg fi lo) := hD
  refine lv_aload_n hx hb dX3_tell_29 rfl (lv_at hl 0 rfl) ?_
  refine lv_iload_n hx hb dX3_tell_30 rfl (lv_at hl 1 rfl) ?_
  refine vp_callSi (va_cr (va_runV (As := [.int wh]) (rest := []) ⟨hx, hb, hml, hown, hts⟩ (c_X3_masked l D h q1 q2 cA cB cd ct tf ff (if ((td / wh) - (td / wh) / 2 * 2) = 1 then td else (td + wh)) an qb pa aT aF dg fi lo wh hw) (cwV 1 hts gX3_tell_X3_masked rfl rfl rfl kV_X3_masked ⟨Nat.le_of_ble_eq_true rfl, Nat.le_of_ble_eq_true rfl⟩) ⟨PB.blind, va_recv hK hP (ci := 2) (q0 := 0) rfl rfl, PB.pre hK hP⟩ rfl rfl hl.1 rfl (lv_room (Nat.le_of_ble_eq_true rfl)) dX3_tell_31 ⟨Nat.le_of_ble_eq_true rfl, Nat.le_of_ble_eq_true rfl⟩)) (fun r9 e9 => ?_)
  rw [e9]
  have hw : M_tell ct td wh = ((M_masked ct wh), (if ((td / wh) - (td / wh) / 2 * 2) = 1 then td else (td + wh))) := rfl
  exact W.zret hx hb hr (bI_nar _) (fun t9 ht hW => ⟨⟨_, (M_masked ct wh), rfl, rfl, ⟨(if ((td / wh) - (td / wh) / 2 * 2) = 1 then td else (td + wh)), hw, by rw [ht]; exact hP, hD⟩⟩, hS.F ht⟩) hS.2.2 dX3_tell_34
def M_begin  : Int32 × Bool :=
  (0, false)
theorem kS_X3_begin : yX3_begin.cls ≠ "java/lang/invoke/MethodHandle" ∧ yX3_begin.cls ≠ "java/lang/invoke/VarHandle" ∧ (parseMethodDescriptor yX3_begin.desc).map (fun d => d.parameters.length) = some 0 := by decide +kernel
theorem kV_X3_begin : yX3_begin.cls = RX3 ∧ yX3_begin.cls ≠ "java/lang/invoke/MethodHandle" ∧ yX3_begin.cls ≠ "java/lang/invoke/VarHandle" ∧ (parseMethodDescriptor yX3_begin.desc).map (fun d => d.parameters.length) = some 0 := ⟨rfl, kS_X3_begin⟩
set_option maxHeartbeats 4000000 in
set_option maxRecDepth 100000 in
theorem c_X3_begin (l : Launch) (D : va_G) (h : Nat) (q1 : Nat) (q2 : Nat) (cA : ClassId) (cB : ClassId) (cd : Int32) (ct : Int32) (tf : Nat → Int32) (ff : Nat → Int64) (td : Int32) (an : Bool) (qb : Int32) (pa : Bool) (aT : Int32) (aF : Int64) (dg : Int64) (fi : Int32) (lo : Bool) (sz : Nat) : Met l yX3_begin wsX3_begin ({ frames := 0, cells := 0, slots := 0, locals := 0 } : Room) (va_Pc [.ref h] (MMB D (tRS cA cB) (cMd h q1 q2 cA cB cd ct tf ff td an qb pa aT aF dg fi lo) sz)) (va_Qv (fun (_ : Unit) => True) (fun _ t => ∃ (w_td : Int32) (w_an : Bool), M_begin = (w_td, w_an) ∧ va_P D vwCl (cMd h q1 q2 cA cB cd ct tf ff w_td w_an qb pa aT aF dg fi lo) t.heap ∧ va_D (va_A (cMd h q1 q2 cA cB cd ct tf ff td an qb pa aT aF dg fi lo) sz) (cMd h q1 q2 cA cB cd ct tf ff w_td w_an qb pa aT aF dg fi lo)) (va_A (cMd h q1 q2 cA cB cd ct tf ff td an qb pa aT aF dg fi lo) sz)) 0 0 (va_A (cMd h q1 q2 cA cB cd ct tf ff td an qb pa aT aF dg fi lo) sz) := by
  refine Met.ofW (cc := cX3_begin) (maxL := 1) (ret := none) (by decide) rfl ?_
  intro p e s m args below meth c s₁ B hml hv
  obtain ⟨rfl, hsz, hP, hK, hD0⟩ := hv
  have hx := B.exec
  have hb := B.bytes
  have hr := B.returns
  have hts := atoms_spec (ws := wsX3_begin) B.pre
  have hown : s.vm.findClass RX3 = some m.cls := findClass_of_methodNamed B.named
  have hlocks := B.notSynchronized
  have w_1 := hts (.fieldLink RX3 72 "RealStepsModel" "told" "I") (by decide +kernel)
  have in_X3 : ∀ w ∈ wsX30, w ∈ wsX3_begin := by decide +kernel
  have w_3 := hts (.fieldLink RX3 68 "RealStepsModel" "answered" "Z") (by decide +kernel)
  subst hsz
  have hD := hD0.self (sz := s.heap.size)
  generalize hAe : va_A (cMd h q1 q2 cA cB cd ct tf ff td an qb pa aT aF dg fi lo) s.heap.size = A at hD ⊢
  have hA : ∀ q : Nat, s.heap.size ≤ q → A q := fun q h => by rw [← hAe]; exact Or.inr h
  have hS : va_S A s.heap s.heap [] := va_S.rf
  have hP : va_P D vwCl (cMd h q1 q2 cA cB cd ct tf ff td an qb pa aT aF dg fi lo) s.heap := hP
  have hl := lv_entry ([.ref h]) (n := 1) (Nat.le_of_ble_eq_true rfl)
  rw [lg_entry_eq]
  generalize (lg_sl ([.ref h]) ++ List.replicate (1 - (lg_sl ([.ref h])).length) Slot.unset).toArray = ls at hl ⊢
  have hl : lv_has ls 1 [(0, .ref h)] := hl
  refine lv_aload_n hx hb dX3_begin_0 rfl (lv_at hl 0 rfl) ?_
  refine lv_iconst (v := 0) hx hb dX3_begin_1 (by decide) ?_
  refine va_put (v := .int 0) (ty := .int) (C := RX3) (T := TX3) (N := 13) hx hb hts in_X3 tyX3 tyX3_ok nmX3 hown hK hP hD hS 0 rfl rfl 4 (by decide) w_1 (fun _ h9 => h9) rfl (tyX3_ok 4 (by decide)) rfl rfl (Nat.le_of_ble_eq_true rfl) dX3_begin_2 (fun H locs hP hD hS => ?_)
  have hP : va_P D vwCl (cMd h q1 q2 cA cB cd ct tf ff 0 an qb pa aT aF dg fi lo) H := hP
  have hD : va_D A (cMd h q1 q2 cA cB cd ct tf ff 0 an qb pa aT aF dg fi lo) := hD
  refine lv_aload_n hx hb dX3_begin_5 rfl (lv_at hl 0 rfl) ?_
  refine lv_iconst (v := 0) hx hb dX3_begin_6 (by decide) ?_
  refine va_put (v := .int 0) (ty := .boolean) (C := RX3) (T := TX3) (N := 13) hx hb hts in_X3 tyX3 tyX3_ok nmX3 hown hK hP hD hS 0 rfl rfl 5 (by decide) w_3 (fun _ h9 => h9) rfl (tyX3_ok 5 (by decide)) rfl rfl (Nat.le_of_ble_eq_true rfl) dX3_begin_7 (fun H locs hP hD hS => ?_)
  have hP : va_P D vwCl (cMd h q1 q2 cA cB cd ct tf ff 0 false qb pa aT aF dg fi lo) H := hP
  have hD : va_D A (cMd h q1 q2 cA cB cd ct tf ff 0 false qb pa aT aF dg fi lo) := hD
  have hw : M_begin = (0, false) := rfl
  exact W.vret hx hb hr (fun t9 ht hW => ⟨⟨(), rfl, trivial, ⟨0, false, hw, by rw [ht]; exact hP, hD⟩⟩, hS.F ht⟩) hS.2.2 dX3_begin_10
