def R_signOf (ng : Bool) : Int32 :=
  (if bI ng = 0 then (0 : Int32) else (32768 : Int32))
theorem kS_X2_signOf : yX2_signOf.cls ≠ "java/lang/invoke/MethodHandle" ∧ yX2_signOf.cls ≠ "java/lang/invoke/VarHandle" ∧ (parseMethodDescriptor yX2_signOf.desc).map (fun d => d.parameters.length) = some 1 := by decide +kernel
set_option maxHeartbeats 4000000 in
set_option maxRecDepth 100000 in
theorem c_X2_signOf (l : Launch) (ng : Bool) : Met l yX2_signOf wsX2_signOf ({ frames := 0, cells := 0, slots := 0, locals := 0 } : Room) (va_Pc [.int (bI ng)] (fun _ => True)) (vp_Si (fun r => r = R_signOf ng)) 0 0 (fun _ => False) := by
  refine Met.ofW (cc := cX2_signOf) (maxL := 1) (ret := (some .int)) (by decide) rfl ?_
  intro p e s m args below meth c s₁ B hml hv
  obtain ⟨rfl, -⟩ := hv
  have hx := B.exec
  have hb := B.bytes
  have hr := B.returns
  have hts := atoms_spec (ws := wsX2_signOf) B.pre
  have hown : s.vm.findClass RX2 = some m.cls := findClass_of_methodNamed B.named
  have hlocks := B.notSynchronized
  have w_1 := hts (.constant RX2 62 (32768)) (by decide +kernel)
  have hl := lv_entry ([.int (bI ng)]) (n := 1) (Nat.le_of_ble_eq_true rfl)
  rw [lg_entry_eq]
  generalize (lg_sl ([.int (bI ng)]) ++ List.replicate (1 - (lg_sl ([.int (bI ng)])).length) Slot.unset).toArray = ls at hl ⊢
  have hl : lv_has ls 1 [(0, .int (bI ng))] := hl
  refine lv_iload_n hx hb dX2_signOf_0 rfl (lv_at hl 0 rfl) ?_
  refine q_cut (v := (if bI ng = 0 then (0 : Int32) else (32768 : Int32))) (pcJ := 10) (rest := []) (fun J => ?_) ?_
  · refine lv_if_eq (tgt := 9) hx hb dX2_signOf_1 (by decide) (fun c_1 => ?_) (fun c_1 => ?_)
    · refine lv_iconst (v := 0) hx hb dX2_signOf_9 (by decide) ?_
      exact J _ (by rw [if_pos c_1]; try rfl)
    · refine lv_ldc (v := 32768) hx hb hown w_1 dX2_signOf_4 ?_
      refine lv_goto (tgt := 10) hx hb dX2_signOf_6 (by decide) ?_
      exact J _ (by rw [if_neg c_1]; try rfl)
  have hw : R_signOf ng = (if bI ng = 0 then (0 : Int32) else (32768 : Int32)) := rfl
  exact W.iret hx hb hr (fun t9 ht hW => ⟨_, rfl, hw.symm, ht⟩) t_nil dX2_signOf_10
def R_isCut (fr : Int64) (sh : Int32) : Bool :=
  (if 63 < sh then true else (if (jlshl fr (64 - sh)) = 0 then false else true))
theorem kS_X2_isCut : yX2_isCut.cls ≠ "java/lang/invoke/MethodHandle" ∧ yX2_isCut.cls ≠ "java/lang/invoke/VarHandle" ∧ (parseMethodDescriptor yX2_isCut.desc).map (fun d => d.parameters.length) = some 2 := by decide +kernel
set_option maxHeartbeats 4000000 in
set_option maxRecDepth 100000 in
theorem c_X2_isCut (l : Launch) (fr : Int64) (sh : Int32) : Met l yX2_isCut wsX2_isCut ({ frames := 0, cells := 0, slots := 0, locals := 0 } : Room) (va_Pc [.long fr, .int sh] (fun _ => True)) (vp_Si (fun r => r = bI (R_isCut fr sh))) 0 0 (fun _ => False) := by
  refine Met.ofW (cc := cX2_isCut) (maxL := 3) (ret := (some .boolean)) (by decide) rfl ?_
  intro p e s m args below meth c s₁ B hml hv
  obtain ⟨rfl, -⟩ := hv
  have hx := B.exec
  have hb := B.bytes
  have hr := B.returns
  have hts := atoms_spec (ws := wsX2_isCut) B.pre
  have hown : s.vm.findClass RX2 = some m.cls := findClass_of_methodNamed B.named
  have hlocks := B.notSynchronized
  have hl := lv_entry ([.long fr, .int sh]) (n := 3) (Nat.le_of_ble_eq_true rfl)
  rw [lg_entry_eq]
  generalize (lg_sl ([.long fr, .int sh]) ++ List.replicate (3 - (lg_sl ([.long fr, .int sh])).length) Slot.unset).toArray = ls at hl ⊢
  have hl : lv_has ls 3 [(0, .long fr), (2, .int sh)] := hl
  refine lv_iload_n hx hb dX2_isCut_0 rfl (lv_at hl 1 rfl) ?_
  refine lv_bipush (v := 63) hx hb dX2_isCut_1 (by decide) ?_
  refine q_cut (v := bI (if 63 < sh then true else (if (jlshl fr (64 - sh)) = 0 then false else true))) (pcJ := 22) (rest := []) (fun J => ?_) ?_
  · refine lv_icmp_gt (tgt := 17) hx hb dX2_isCut_3 (by decide) (fun c_1 => ?_) (fun c_1 => ?_)
    · refine lv_iconst (v := 1) hx hb dX2_isCut_17 (by decide) ?_
      refine lv_goto (tgt := 22) hx hb dX2_isCut_18 (by decide) ?_
      exact J _ (by rw [if_pos c_1]; try rfl)
    · refine lv_lload_n hx hb dX2_isCut_6 rfl (lv_at hl 0 rfl) ?_
      refine lv_bipush (v := 64) hx hb dX2_isCut_7 (by decide) ?_
      refine lv_iload_n hx hb dX2_isCut_9 rfl (lv_at hl 1 rfl) ?_
      refine lv_isub hx hb dX2_isCut_10 ?_
      refine lv_lshl (v := (jlshl fr (64 - sh))) hx hb dX2_isCut_11 rfl ?_
      refine lv_lconst (v := 0) hx hb dX2_isCut_12 (by decide) ?_
      refine q_cl_eq (tgt := 21) hx hb dX2_isCut_13 dX2_isCut_14 (by decide) (fun c_2 => ?_) (fun c_2 => ?_)
      · refine lv_iconst (v := 0) hx hb dX2_isCut_21 (by decide) ?_
        exact J _ (by rw [if_neg c_1, if_pos c_2]; try rfl)
      · refine lv_iconst (v := 1) hx hb dX2_isCut_17 (by decide) ?_
        refine lv_goto (tgt := 22) hx hb dX2_isCut_18 (by decide) ?_
        exact J _ (by rw [if_neg c_1, if_neg c_2]; try rfl)
  have hw : R_isCut fr sh = (if 63 < sh then true else (if (jlshl fr (64 - sh)) = 0 then false else true)) := rfl
  exact W.zret hx hb hr (bI_nar _) (fun t9 ht hW => ⟨_, rfl, (congrArg bI hw).symm, ht⟩) t_nil dX2_isCut_22
def R_nearer (fr : Int64) (sh : Int32) (kp : Int64) : Bool :=
  if sh ≤ 64 then (if (if sh ≤ 63 then (fr - (jlshl kp sh)) else fr) = (jlshl 1 (sh - 1)) then (if (kp &&& 1) = 0 then false else true)
    else (if (J_cmpU (if sh ≤ 63 then (fr - (jlshl kp sh)) else fr) (jlshl 1 (sh - 1))) ≤ 0 then false else true))
  else false
theorem kS_X2_isNearerAbove : yX2_isNearerAbove.cls ≠ "java/lang/invoke/MethodHandle" ∧ yX2_isNearerAbove.cls ≠ "java/lang/invoke/VarHandle" ∧ (parseMethodDescriptor yX2_isNearerAbove.desc).map (fun d => d.parameters.length) = some 3 := by decide +kernel
set_option maxHeartbeats 4000000 in
set_option maxRecDepth 100000 in
theorem c_X2_isNearerAbove (l : Launch) (fr : Int64) (sh : Int32) (kp : Int64) : Met l yX2_isNearerAbove wsX2_isNearerAbove ({ frames := 2, cells := 0, slots := 0, locals := 46 } : Room) (va_Pc [.long fr, .int sh, .long kp] (fun _ => True)) (vp_Si (fun r => r = bI (R_nearer fr sh kp))) 0 0 (fun _ => False) := by
  refine Met.ofW (cc := cX2_isNearerAbove) (maxL := 9) (ret := (some .boolean)) (by decide) rfl ?_
  intro p e s m args below meth c s₁ B hml hv
  obtain ⟨rfl, -⟩ := hv
  have hx := B.exec
  have hb := B.bytes
  have hr := B.returns
  have hts := atoms_spec (ws := wsX2_isNearerAbove) B.pre
  have hown : s.vm.findClass RX2 = some m.cls := findClass_of_methodNamed B.named
  have hlocks := B.notSynchronized
  have hl := lv_entry ([.long fr, .int sh, .long kp]) (n := 9) (Nat.le_of_ble_eq_true rfl)
  rw [lg_entry_eq]
  generalize (lg_sl ([.long fr, .int sh, .long kp]) ++ List.replicate (9 - (lg_sl ([.long fr, .int sh, .long kp])).length) Slot.unset).toArray = ls at hl ⊢
  have hl : lv_has ls 9 [(0, .long fr), (2, .int sh), (3, .long kp)] := hl
  refine lv_iload_n hx hb dX2_isNearerAbove_0 rfl (lv_at hl 1 rfl) ?_
  refine lv_bipush (v := 64) hx hb dX2_isNearerAbove_1 (by decide) ?_
  refine lv_icmp_le (tgt := 8) hx hb dX2_isNearerAbove_3 (by decide) (fun c_1 => ?_) (fun c_1 => ?_)
  · refine lv_iload_n hx hb dX2_isNearerAbove_8 rfl (lv_at hl 1 rfl) ?_
    refine lv_bipush (v := 63) hx hb dX2_isNearerAbove_9 (by decide) ?_
    refine q_cutL (v := (if sh ≤ 63 then (fr - (jlshl kp sh)) else fr)) (pcJ := 23) (rest := []) (fun J => ?_) ?_
    · refine lv_icmp_le (tgt := 18) hx hb dX2_isNearerAbove_11 (by decide) (fun c_2 => ?_) (fun c_2 => ?_)
      · refine lv_lload_n hx hb dX2_isNearerAbove_18 rfl (lv_at hl 0 rfl) ?_
        refine lv_lload_n hx hb dX2_isNearerAbove_19 rfl (lv_at hl 2 rfl) ?_
        refine lv_iload_n hx hb dX2_isNearerAbove_20 rfl (lv_at hl 1 rfl) ?_
        refine lv_lshl (v := (jlshl kp sh)) hx hb dX2_isNearerAbove_21 rfl ?_
        refine lv_lsub hx hb dX2_isNearerAbove_22 ?_
        exact J _ (by rw [if_pos c_2]; try rfl)
      · refine lv_lload_n hx hb dX2_isNearerAbove_14 rfl (lv_at hl 0 rfl) ?_
        refine lv_goto (tgt := 23) hx hb dX2_isNearerAbove_15 (by decide) ?_
        exact J _ (by rw [if_neg c_2]; try rfl)
    refine lv_lstore (lv' := [(5, .long (if sh ≤ 63 then (fr - (jlshl kp sh)) else fr)), (0, .long fr), (2, .int sh), (3, .long kp)]) hx hb dX2_isNearerAbove_23 hl (by decide) rfl (fun ls hl => ?_)
    refine lv_lconst (v := 1) hx hb dX2_isNearerAbove_25 (by decide) ?_
    refine lv_iload_n hx hb dX2_isNearerAbove_26 rfl (lv_at hl 2 rfl) ?_
    refine lv_iconst (v := 1) hx hb dX2_isNearerAbove_27 (by decide) ?_
    refine lv_isub hx hb dX2_isNearerAbove_28 ?_
    refine lv_lshl (v := (jlshl 1 (sh - 1))) hx hb dX2_isNearerAbove_29 rfl ?_
    refine lv_lstore (lv' := [(7, .long (jlshl 1 (sh - 1))), (5, .long (if sh ≤ 63 then (fr - (jlshl kp sh)) else fr)), (0, .long fr), (2, .int sh), (3, .long kp)]) hx hb dX2_isNearerAbove_30 hl (by decide) rfl (fun ls hl => ?_)
    refine lv_lload hx hb dX2_isNearerAbove_32 (lv_at hl 1 rfl) ?_
    refine lv_lload hx hb dX2_isNearerAbove_34 (lv_at hl 0 rfl) ?_
    refine q_cl_ne (tgt := 54) hx hb dX2_isNearerAbove_36 dX2_isNearerAbove_37 (by decide) (fun c_3 => ?_) (fun c_3 => ?_)
    · refine lv_lload hx hb dX2_isNearerAbove_54 (lv_at hl 1 rfl) ?_
      refine lv_lload hx hb dX2_isNearerAbove_56 (lv_at hl 0 rfl) ?_
      refine vp_callSi (va_cr (va_runS (As := [.long (if sh ≤ 63 then (fr - (jlshl kp sh)) else fr), .long (jlshl 1 (sh - 1))]) (rest := []) ⟨hx, hb, hml, hown, hts⟩ (c_J13_compareUnsigned_74951 l (if sh ≤ 63 then (fr - (jlshl kp sh)) else fr) (jlshl 1 (sh - 1))) (va_cwS 2 hts gX2_isNearerAbove_J13_compareUnsigned_74951 rfl rfl rfl kS_J13_compareUnsigned_74951 ⟨Nat.le_of_ble_eq_true rfl, Nat.le_of_ble_eq_true rfl⟩) ⟨TB.blind, TB.pre⟩ rfl rfl hl.1 rfl (lv_room (Nat.le_of_ble_eq_true rfl)) dX2_isNearerAbove_58 ⟨Nat.le_of_ble_eq_true rfl, Nat.le_of_ble_eq_true rfl⟩)) (fun r9 e9 => ?_)
      rw [e9]
      refine q_cut (v := bI (if (J_cmpU (if sh ≤ 63 then (fr - (jlshl kp sh)) else fr) (jlshl 1 (sh - 1))) ≤ 0 then false else true)) (pcJ := 69) (rest := []) (fun J => ?_) ?_
      · refine lv_if_le (tgt := 68) hx hb dX2_isNearerAbove_61 (by decide) (fun c_4 => ?_) (fun c_4 => ?_)
        · refine lv_iconst (v := 0) hx hb dX2_isNearerAbove_68 (by decide) ?_
          exact J _ (by rw [if_pos c_4]; try rfl)
        · refine lv_iconst (v := 1) hx hb dX2_isNearerAbove_64 (by decide) ?_
          refine lv_goto (tgt := 69) hx hb dX2_isNearerAbove_65 (by decide) ?_
          exact J _ (by rw [if_neg c_4]; try rfl)
      have hw : R_nearer fr sh kp = (if (J_cmpU (if sh ≤ 63 then (fr - (jlshl kp sh)) else fr) (jlshl 1 (sh - 1))) ≤ 0 then false else true) := by unfold R_nearer; rw [if_pos c_1, if_neg c_3]; try rfl
      exact W.zret hx hb hr (bI_nar _) (fun t9 ht hW => ⟨_, rfl, (congrArg bI hw).symm, ht⟩) t_nil dX2_isNearerAbove_69
    · refine lv_lload_n hx hb dX2_isNearerAbove_40 rfl (lv_at hl 4 rfl) ?_
      refine lv_lconst (v := 1) hx hb dX2_isNearerAbove_41 (by decide) ?_
      refine lv_land hx hb dX2_isNearerAbove_42 ?_
      refine lv_lconst (v := 0) hx hb dX2_isNearerAbove_43 (by decide) ?_
      refine q_cut (v := bI (if (kp &&& 1) = 0 then false else true)) (pcJ := 53) (rest := []) (fun J => ?_) ?_
      · refine q_cl_eq (tgt := 52) hx hb dX2_isNearerAbove_44 dX2_isNearerAbove_45 (by decide) (fun c_5 => ?_) (fun c_5 => ?_)
        · refine lv_iconst (v := 0) hx hb dX2_isNearerAbove_52 (by decide) ?_
          exact J _ (by rw [if_pos c_5]; try rfl)
        · refine lv_iconst (v := 1) hx hb dX2_isNearerAbove_48 (by decide) ?_
          refine lv_goto (tgt := 53) hx hb dX2_isNearerAbove_49 (by decide) ?_
          exact J _ (by rw [if_neg c_5]; try rfl)
      have hw : R_nearer fr sh kp = (if (kp &&& 1) = 0 then false else true) := by unfold R_nearer; rw [if_pos c_1, if_pos c_3]; try rfl
      exact W.zret hx hb hr (bI_nar _) (fun t9 ht hW => ⟨_, rfl, (congrArg bI hw).symm, ht⟩) t_nil dX2_isNearerAbove_53
  · refine lv_iconst (v := 0) hx hb dX2_isNearerAbove_6 (by decide) ?_
    have hw : R_nearer fr sh kp = false := by unfold R_nearer; rw [if_neg c_1]; try rfl
    exact W.zret hx hb hr rfl (fun t9 ht hW => ⟨_, rfl, (congrArg bI hw).symm, ht⟩) t_nil dX2_isNearerAbove_7
def R_beyond (ty : Int32) (fy : Int64) : Bool :=
  if bI (R_nought ty fy) = 0 then (if bI (R_isOf ty fy 4) = 0 then (if (R_exp ty fy) < 14 then false else true) else true)
  else false
theorem kS_X2_isBeyondScale : yX2_isBeyondScale.cls ≠ "java/lang/invoke/MethodHandle" ∧ yX2_isBeyondScale.cls ≠ "java/lang/invoke/VarHandle" ∧ (parseMethodDescriptor yX2_isBeyondScale.desc).map (fun d => d.parameters.length) = some 1 := by decide +kernel
set_option maxHeartbeats 4000000 in
set_option maxRecDepth 100000 in
theorem c_X2_isBeyondScale (l : Launch) (D : va_G) (ad : Nat → Nat) (y : Nat) (ty : Int32) (fy : Int64) : Met l yX2_isBeyondScale wsX2_isBeyondScale ({ frames := 3, cells := 0, slots := 0, locals := 63 } : Room) (va_Pc [.ref y] (EB D [] ad [cReal y ty fy])) (vp_Si (fun r => r = bI (R_beyond ty fy))) 0 0 (fun _ => False) := by
  refine Met.ofW (cc := cX2_isBeyondScale) (maxL := 1) (ret := (some .boolean)) (by decide) rfl ?_
  intro p e s m args below meth c s₁ B hml hv
  obtain ⟨rfl, hP, hK, hE⟩ := hv
  have hx := B.exec
  have hb := B.bytes
  have hr := B.returns
  have hts := atoms_spec (ws := wsX2_isBeyondScale) B.pre
  have hown : s.vm.findClass RX2 = some m.cls := findClass_of_methodNamed B.named
  have hlocks := B.notSynchronized
  have w_1 := hts (.initialized RX1) (by decide +kernel)
  have w_2 := hts (.instanceMethod yX1_isNought) (by decide +kernel)
  have w_3 := hts (.selects RX1 yX1_isNought yX1_isNought) (by decide +kernel)
  have w_4 := hts (.fieldLink RX2 106 "RealSteps$Kind" "INFINITE" "LRealSteps$Kind;") (by decide +kernel)
  have w_5 := hts (.instanceMethod yX1_isOf) (by decide +kernel)
  have w_6 := hts (.selects RX1 yX1_isOf yX1_isOf) (by decide +kernel)
  have w_7 := hts (.instanceMethod yX1_exponent) (by decide +kernel)
  have w_8 := hts (.selects RX1 yX1_exponent yX1_exponent) (by decide +kernel)
  have hS : va_S (fun _ : Nat => False) s.heap s.heap [] := va_S.rf
  have hl := lv_entry ([.ref y]) (n := 1) (Nat.le_of_ble_eq_true rfl)
  rw [lg_entry_eq]
  generalize (lg_sl ([.ref y]) ++ List.replicate (1 - (lg_sl ([.ref y])).length) Slot.unset).toArray = ls at hl ⊢
  have hl : lv_has ls 1 [(0, .ref y)] := hl
  refine lv_aload_n hx hb dX2_isBeyondScale_0 rfl (lv_at hl 0 rfl) ?_
  refine vp_callSi (va_cr (va_runVN (As := []) (rest := []) ⟨hx, hb, hml, hown, hts⟩ (c_X1_isNought l D ad y ty fy) ⟨va_cnB 0 hts gX2_isBeyondScale_X1_isNought_n96 rfl rfl rfl (hE.2.1 _ (List.mem_of_getElem? (i := 8) rfl)) w_1 kS_X1_isNought ⟨Nat.le_of_ble_eq_true rfl, Nat.le_of_ble_eq_true rfl⟩, w_2, w_3⟩ ⟨EB.blind, va_recv hK hP (ci := 0) (q0 := 0) rfl rfl, EB.pre (hK.sub [] rfl) (hP.sub [0] rfl) hE hS⟩ rfl rfl hl.1 rfl (lv_room (Nat.le_of_ble_eq_true rfl)) dX2_isBeyondScale_1 ⟨Nat.le_of_ble_eq_true rfl, Nat.le_of_ble_eq_true rfl⟩)) (fun r9 e9 => ?_)
  rw [e9]
  refine lv_if_eq (tgt := 9) hx hb dX2_isBeyondScale_4 (by decide) (fun c_1 => ?_) (fun c_1 => ?_)
  · refine lv_aload_n hx hb dX2_isBeyondScale_9 rfl (lv_at hl 0 rfl) ?_
    refine va_gets (v := .ref (ad 4)) hx hb (hE.1.1 4 (by decide)).1 hS hown w_4 (fun _ h9 => h9) dX2_isBeyondScale_10 ?_
    refine vp_callSi (va_cr (va_runVN (As := [.ref (ad 4)]) (rest := []) ⟨hx, hb, hml, hown, hts⟩ (c_X1_isOf l D ad y ty fy 4 (by decide)) ⟨va_cnB 1 hts gX2_isBeyondScale_X1_isOf_n112 rfl rfl rfl (hE.2.1 _ (List.mem_of_getElem? (i := 0) rfl)) w_1 kS_X1_isOf ⟨Nat.le_of_ble_eq_true rfl, Nat.le_of_ble_eq_true rfl⟩, w_5, w_6⟩ ⟨EB.blind, va_recv hK hP (ci := 0) (q0 := 0) rfl rfl, EB.pre (hK.sub [] rfl) (hP.sub [0] rfl) hE hS⟩ rfl rfl hl.1 rfl (lv_room (Nat.le_of_ble_eq_true rfl)) dX2_isBeyondScale_13 ⟨Nat.le_of_ble_eq_true rfl, Nat.le_of_ble_eq_true rfl⟩)) (fun r9 e9 => ?_)
    rw [e9]
    refine q_cut (v := bI (if bI (R_isOf ty fy 4) = 0 then (if (R_exp ty fy) < 14 then false else true) else true)) (pcJ := 33) (rest := []) (fun J => ?_) ?_
    · refine lv_if_ne (tgt := 28) hx hb dX2_isBeyondScale_16 (by decide) (fun c_2 => ?_) (fun c_2 => ?_)
      · refine lv_iconst (v := 1) hx hb dX2_isBeyondScale_28 (by decide) ?_
        refine lv_goto (tgt := 33) hx hb dX2_isBeyondScale_29 (by decide) ?_
        exact J _ (by rw [if_neg c_2]; try rfl)
      · refine lv_aload_n hx hb dX2_isBeyondScale_19 rfl (lv_at hl 0 rfl) ?_
        refine vp_callSi (va_cr (va_runVN (As := []) (rest := []) ⟨hx, hb, hml, hown, hts⟩ (c_X1_exponent l D ad y ty fy) ⟨va_cnB 0 hts gX2_isBeyondScale_X1_exponent_n219 rfl rfl rfl (hE.2.1 _ (List.mem_of_getElem? (i := 3) rfl)) w_1 kS_X1_exponent ⟨Nat.le_of_ble_eq_true rfl, Nat.le_of_ble_eq_true rfl⟩, w_7, w_8⟩ ⟨EB.blind, va_recv hK hP (ci := 0) (q0 := 0) rfl rfl, EB.pre (hK.sub [] rfl) (hP.sub [0] rfl) hE hS⟩ rfl rfl hl.1 rfl (lv_room (Nat.le_of_ble_eq_true rfl)) dX2_isBeyondScale_20 ⟨Nat.le_of_ble_eq_true rfl, Nat.le_of_ble_eq_true rfl⟩)) (fun r9 e9 => ?_)
        rw [e9]
        refine lv_bipush (v := 14) hx hb dX2_isBeyondScale_23 (by decide) ?_
        refine lv_icmp_lt (tgt := 32) hx hb dX2_isBeyondScale_25 (by decide) (fun c_3 => ?_) (fun c_3 => ?_)
        · refine lv_iconst (v := 0) hx hb dX2_isBeyondScale_32 (by decide) ?_
          exact J _ (by rw [if_pos c_2, if_pos c_3]; try rfl)
        · refine lv_iconst (v := 1) hx hb dX2_isBeyondScale_28 (by decide) ?_
          refine lv_goto (tgt := 33) hx hb dX2_isBeyondScale_29 (by decide) ?_
          exact J _ (by rw [if_pos c_2, if_neg c_3]; try rfl)
    have hw : R_beyond ty fy = (if bI (R_isOf ty fy 4) = 0 then (if (R_exp ty fy) < 14 then false else true) else true) := by unfold R_beyond; rw [if_pos c_1]; try rfl
    exact W.zret hx hb hr (bI_nar _) (fun t9 ht hW => ⟨_, rfl, (congrArg bI hw).symm, ht⟩) t_nil dX2_isBeyondScale_33
  · refine lv_iconst (v := 0) hx hb dX2_isBeyondScale_7 (by decide) ?_
    have hw : R_beyond ty fy = false := by unfold R_beyond; rw [if_neg c_1]; try rfl
    exact W.zret hx hb hr rfl (fun t9 ht hW => ⟨_, rfl, (congrArg bI hw).symm, ht⟩) t_nil dX2_isBeyondScale_8
def R_cutOff (ty : Int32) (fy : Int64) : Int32 :=
  if bI (R_nought ty fy) = 0 then (if 0 ≤ (R_exp ty fy) then (if bI (R_neg ty) = 0 then ((jlushr (R_norm fy) (63 - (R_exp ty fy)))).toInt32 else (-(((jlushr (R_norm fy) (63 - (R_exp ty fy)))).toInt32)))
    else 0)
  else 0
theorem kS_X2_cutOff : yX2_cutOff.cls ≠ "java/lang/invoke/MethodHandle" ∧ yX2_cutOff.cls ≠ "java/lang/invoke/VarHandle" ∧ (parseMethodDescriptor yX2_cutOff.desc).map (fun d => d.parameters.length) = some 1 := by decide +kernel
set_option maxHeartbeats 4000000 in
set_option maxRecDepth 100000 in
theorem c_X2_cutOff (l : Launch) (D : va_G) (ad : Nat → Nat) (y : Nat) (ty : Int32) (fy : Int64) : Met l yX2_cutOff wsX2_cutOff ({ frames := 3, cells := 0, slots := 0, locals := 63 } : Room) (va_Pc [.ref y] (EB D [] ad [cReal y ty fy])) (vp_Si (fun r => r = R_cutOff ty fy)) 0 0 (fun _ => False) := by
  refine Met.ofW (cc := cX2_cutOff) (maxL := 3) (ret := (some .int)) (by decide) rfl ?_
  intro p e s m args below meth c s₁ B hml hv
  obtain ⟨rfl, hP, hK, hE⟩ := hv
  have hx := B.exec
  have hb := B.bytes
  have hr := B.returns
  have hts := atoms_spec (ws := wsX2_cutOff) B.pre
  have hown : s.vm.findClass RX2 = some m.cls := findClass_of_methodNamed B.named
  have hlocks := B.notSynchronized
  have w_1 := hts (.initialized RX1) (by decide +kernel)
  have w_2 := hts (.instanceMethod yX1_exponent) (by decide +kernel)
  have w_3 := hts (.selects RX1 yX1_exponent yX1_exponent) (by decide +kernel)
  have w_4 := hts (.instanceMethod yX1_isNought) (by decide +kernel)
  have w_5 := hts (.selects RX1 yX1_isNought yX1_isNought) (by decide +kernel)
  have w_6 := hts (.instanceMethod yX1_normalised) (by decide +kernel)
  have w_7 := hts (.selects RX1 yX1_normalised yX1_normalised) (by decide +kernel)
  have w_8 := hts (.instanceMethod yX1_isNegative) (by decide +kernel)
  have w_9 := hts (.selects RX1 yX1_isNegative yX1_isNegative) (by decide +kernel)
  have hS : va_S (fun _ : Nat => False) s.heap s.heap [] := va_S.rf
  have hl := lv_entry ([.ref y]) (n := 3) (Nat.le_of_ble_eq_true rfl)
  rw [lg_entry_eq]
  generalize (lg_sl ([.ref y]) ++ List.replicate (3 - (lg_sl ([.ref y])).length) Slot.unset).toArray = ls at hl ⊢
  have hl : lv_has ls 3 [(0, .ref y)] := hl
  refine lv_aload_n hx hb dX2_cutOff_0 rfl (lv_at hl 0 rfl) ?_
  refine vp_callSi (va_cr (va_runVN (As := []) (rest := []) ⟨hx, hb, hml, hown, hts⟩ (c_X1_exponent l D ad y ty fy) ⟨va_cnB 0 hts gX2_cutOff_X1_exponent_n219 rfl rfl rfl (hE.2.1 _ (List.mem_of_getElem? (i := 3) rfl)) w_1 kS_X1_exponent ⟨Nat.le_of_ble_eq_true rfl, Nat.le_of_ble_eq_true rfl⟩, w_2, w_3⟩ ⟨EB.blind, va_recv hK hP (ci := 0) (q0 := 0) rfl rfl, EB.pre (hK.sub [] rfl) (hP.sub [0] rfl) hE hS⟩ rfl rfl hl.1 rfl (lv_room (Nat.le_of_ble_eq_true rfl)) dX2_cutOff_1 ⟨Nat.le_of_ble_eq_true rfl, Nat.le_of_ble_eq_true rfl⟩)) (fun r9 e9 => ?_)
  rw [e9]
  refine lv_istore_n (lv' := [(1, .int (R_exp ty fy)), (0, .ref y)]) hx hb dX2_cutOff_4 rfl hl (by decide) rfl (fun ls hl => ?_)
  refine lv_aload_n hx hb dX2_cutOff_5 rfl (lv_at hl 1 rfl) ?_
  refine vp_callSi (va_cr (va_runVN (As := []) (rest := []) ⟨hx, hb, hml, hown, hts⟩ (c_X1_isNought l D ad y ty fy) ⟨va_cnB 0 hts gX2_cutOff_X1_isNought_n96 rfl rfl rfl (hE.2.1 _ (List.mem_of_getElem? (i := 8) rfl)) w_1 kS_X1_isNought ⟨Nat.le_of_ble_eq_true rfl, Nat.le_of_ble_eq_true rfl⟩, w_4, w_5⟩ ⟨EB.blind, va_recv hK hP (ci := 0) (q0 := 0) rfl rfl, EB.pre (hK.sub [] rfl) (hP.sub [0] rfl) hE hS⟩ rfl rfl hl.1 rfl (lv_room (Nat.le_of_ble_eq_true rfl)) dX2_cutOff_6 ⟨Nat.le_of_ble_eq_true rfl, Nat.le_of_ble_eq_true rfl⟩)) (fun r9 e9 => ?_)
  rw [e9]
  refine lv_if_ne (tgt := 16) hx hb dX2_cutOff_9 (by decide) (fun c_1 => ?_) (fun c_1 => ?_)
  · refine lv_iconst (v := 0) hx hb dX2_cutOff_16 (by decide) ?_
    have hw : R_cutOff ty fy = 0 := by unfold R_cutOff; rw [if_neg c_1]; try rfl
    exact W.iret hx hb hr (fun t9 ht hW => ⟨_, rfl, hw.symm, ht⟩) t_nil dX2_cutOff_17
  · refine lv_iload_n hx hb dX2_cutOff_12 rfl (lv_at hl 0 rfl) ?_
    refine lv_if_ge (tgt := 18) hx hb dX2_cutOff_13 (by decide) (fun c_2 => ?_) (fun c_2 => ?_)
    · refine lv_aload_n hx hb dX2_cutOff_18 rfl (lv_at hl 1 rfl) ?_
      refine vp_callSl (va_cr (va_runVN (As := []) (rest := []) ⟨hx, hb, hml, hown, hts⟩ (c_X1_normalised l D ad y ty fy) ⟨va_cnB 0 hts gX2_cutOff_X1_normalised_n229 rfl rfl rfl (hE.2.1 _ (List.mem_of_getElem? (i := 5) rfl)) w_1 kS_X1_normalised ⟨Nat.le_of_ble_eq_true rfl, Nat.le_of_ble_eq_true rfl⟩, w_6, w_7⟩ ⟨EB.blind, va_recv hK hP (ci := 0) (q0 := 0) rfl rfl, EB.pre (hK.sub [] rfl) (hP.sub [0] rfl) hE hS⟩ rfl rfl hl.1 rfl (lv_room (Nat.le_of_ble_eq_true rfl)) dX2_cutOff_19 ⟨Nat.le_of_ble_eq_true rfl, Nat.le_of_ble_eq_true rfl⟩)) (fun r9 e9 => ?_)
      rw [e9]
      refine lv_bipush (v := 63) hx hb dX2_cutOff_22 (by decide) ?_
      refine lv_iload_n hx hb dX2_cutOff_24 rfl (lv_at hl 0 rfl) ?_
      refine lv_isub hx hb dX2_cutOff_25 ?_
      refine lv_lushr (v := (jlushr (R_norm fy) (63 - (R_exp ty fy)))) hx hb dX2_cutOff_26 rfl ?_
      refine lv_l2i (v := ((jlushr (R_norm fy) (63 - (R_exp ty fy)))).toInt32) hx hb dX2_cutOff_27 rfl ?_
      refine lv_istore_n (lv' := [(2, .int (((jlushr (R_norm fy) (63 - (R_exp ty fy)))).toInt32)), (1, .int (R_exp ty fy)), (0, .ref y)]) hx hb dX2_cutOff_28 rfl hl (by decide) rfl (fun ls hl => ?_)
      refine lv_aload_n hx hb dX2_cutOff_29 rfl (lv_at hl 2 rfl) ?_
      refine vp_callSi (va_cr (va_runVN (As := []) (rest := []) ⟨hx, hb, hml, hown, hts⟩ (c_X1_isNegative l D ad y ty fy) ⟨va_cnB 0 hts gX2_cutOff_X1_isNegative_n137 rfl rfl rfl (hE.2.1 _ (List.mem_of_getElem? (i := 2) rfl)) w_1 kS_X1_isNegative ⟨Nat.le_of_ble_eq_true rfl, Nat.le_of_ble_eq_true rfl⟩, w_8, w_9⟩ ⟨EB.blind, va_recv hK hP (ci := 0) (q0 := 0) rfl rfl, EB.pre (hK.sub [] rfl) (hP.sub [0] rfl) hE hS⟩ rfl rfl hl.1 rfl (lv_room (Nat.le_of_ble_eq_true rfl)) dX2_cutOff_30 ⟨Nat.le_of_ble_eq_true rfl, Nat.le_of_ble_eq_true rfl⟩)) (fun r9 e9 => ?_)
      rw [e9]
      refine q_cut (v := (if bI (R_neg ty) = 0 then ((jlushr (R_norm fy) (63 - (R_exp ty fy)))).toInt32 else (-(((jlushr (R_norm fy) (63 - (R_exp ty fy)))).toInt32)))) (pcJ := 42) (rest := []) (fun J => ?_) ?_
      · refine lv_if_eq (tgt := 41) hx hb dX2_cutOff_33 (by decide) (fun c_3 => ?_) (fun c_3 => ?_)
        · refine lv_iload_n hx hb dX2_cutOff_41 rfl (lv_at hl 0 rfl) ?_
          exact J _ (by rw [if_pos c_3]; try rfl)
        · refine lv_iload_n hx hb dX2_cutOff_36 rfl (lv_at hl 0 rfl) ?_
          refine lv_ineg hx hb dX2_cutOff_37 ?_
          refine lv_goto (tgt := 42) hx hb dX2_cutOff_38 (by decide) ?_
          exact J _ (by rw [if_neg c_3]; try rfl)
      have hw : R_cutOff ty fy = (if bI (R_neg ty) = 0 then ((jlushr (R_norm fy) (63 - (R_exp ty fy)))).toInt32 else (-(((jlushr (R_norm fy) (63 - (R_exp ty fy)))).toInt32))) := by unfold R_cutOff; rw [if_pos c_1, if_pos c_2]; try rfl
      exact W.iret hx hb hr (fun t9 ht hW => ⟨_, rfl, hw.symm, ht⟩) t_nil dX2_cutOff_42
    · refine lv_iconst (v := 0) hx hb dX2_cutOff_16 (by decide) ?_
      have hw : R_cutOff ty fy = 0 := by unfold R_cutOff; rw [if_pos c_1, if_neg c_2]; try rfl
      exact W.iret hx hb hr (fun t9 ht hW => ⟨_, rfl, hw.symm, ht⟩) t_nil dX2_cutOff_17
def R_sizes (tx : Int32) (fx : Int64) (ty : Int32) (fy : Int64) : Int32 :=
  if bI (R_isOf tx fx 4) = bI (R_isOf ty fy 4) then (if bI (R_isOf tx fx 4) = 0 then (if (R_exp tx fx) = (R_exp ty fy) then (if (R_norm fx) = (R_norm fy) then 0
        else (if 0 ≤ (J_cmpU (R_norm fx) (R_norm fy)) then (1 : Int32) else (-1 : Int32)))
      else (if (R_exp ty fy) ≤ (R_exp tx fx) then (1 : Int32) else (-1 : Int32)))
    else 0)
  else (if bI (R_isOf tx fx 4) = 0 then (-1 : Int32) else (1 : Int32))
theorem kS_X2_orderOfSizes : yX2_orderOfSizes.cls ≠ "java/lang/invoke/MethodHandle" ∧ yX2_orderOfSizes.cls ≠ "java/lang/invoke/VarHandle" ∧ (parseMethodDescriptor yX2_orderOfSizes.desc).map (fun d => d.parameters.length) = some 2 := by decide +kernel
set_option maxHeartbeats 4000000 in
set_option maxRecDepth 100000 in
theorem c_X2_orderOfSizes (l : Launch) (D : va_G) (ad : Nat → Nat) (x : Nat) (tx : Int32) (fx : Int64) (y : Nat) (ty : Int32) (fy : Int64) : Met l yX2_orderOfSizes wsX2_orderOfSizes ({ frames := 3, cells := 0, slots := 0, locals := 63 } : Room) (va_Pc [.ref x, .ref y] (EB D [] ad [cReal x tx fx, cReal y ty fy])) (vp_Si (fun r => r = R_sizes tx fx ty fy)) 0 0 (fun _ => False) := by
  refine Met.ofW (cc := cX2_orderOfSizes) (maxL := 3) (ret := (some .int)) (by decide) rfl ?_
  intro p e s m args below meth c s₁ B hml hv
  obtain ⟨rfl, hP, hK, hE⟩ := hv
  have hx := B.exec
  have hb := B.bytes
  have hr := B.returns
  have hts := atoms_spec (ws := wsX2_orderOfSizes) B.pre
  have hown : s.vm.findClass RX2 = some m.cls := findClass_of_methodNamed B.named
  have hlocks := B.notSynchronized
  have w_1 := hts (.fieldLink RX2 106 "RealSteps$Kind" "INFINITE" "LRealSteps$Kind;") (by decide +kernel)
  have w_2 := hts (.initialized RX1) (by decide +kernel)
  have w_3 := hts (.instanceMethod yX1_isOf) (by decide +kernel)
  have w_4 := hts (.selects RX1 yX1_isOf yX1_isOf) (by decide +kernel)
  have w_5 := hts (.instanceMethod yX1_exponent) (by decide +kernel)
  have w_6 := hts (.selects RX1 yX1_exponent yX1_exponent) (by decide +kernel)
  have w_7 := hts (.instanceMethod yX1_normalised) (by decide +kernel)
  have w_8 := hts (.selects RX1 yX1_normalised yX1_normalised) (by decide +kernel)
  have hS : va_S (fun _ : Nat => False) s.heap s.heap [] := va_S.rf
  have hl := lv_entry ([.ref x, .ref y]) (n := 3) (Nat.le_of_ble_eq_true rfl)
  rw [lg_entry_eq]
  generalize (lg_sl ([.ref x, .ref y]) ++ List.replicate (3 - (lg_sl ([.ref x, .ref y])).length) Slot.unset).toArray = ls at hl ⊢
  have hl : lv_has ls 3 [(0, .ref x), (1, .ref y)] := hl
  refine lv_aload_n hx hb dX2_orderOfSizes_0 rfl (lv_at hl 0 rfl) ?_
  refine va_gets (v := .ref (ad 4)) hx hb (hE.1.1 4 (by decide)).1 hS hown w_1 (fun _ h9 => h9) dX2_orderOfSizes_1 ?_
  refine vp_callSi (va_cr (va_runVN (As := [.ref (ad 4)]) (rest := []) ⟨hx, hb, hml, hown, hts⟩ (c_X1_isOf l D ad x tx fx 4 (by decide)) ⟨va_cnB 1 hts gX2_orderOfSizes_X1_isOf_n112 rfl rfl rfl (hE.2.1 _ (List.mem_of_getElem? (i := 0) rfl)) w_2 kS_X1_isOf ⟨Nat.le_of_ble_eq_true rfl, Nat.le_of_ble_eq_true rfl⟩, w_3, w_4⟩ ⟨EB.blind, va_recv hK hP (ci := 0) (q0 := 0) rfl rfl, EB.pre (hK.sub [] rfl) (hP.sub [0] rfl) hE hS⟩ rfl rfl hl.1 rfl (lv_room (Nat.le_of_ble_eq_true rfl)) dX2_orderOfSizes_4 ⟨Nat.le_of_ble_eq_true rfl, Nat.le_of_ble_eq_true rfl⟩)) (fun r9 e9 => ?_)
  rw [e9]
  refine lv_istore_n (lv' := [(2, .int (bI (R_isOf tx fx 4))), (0, .ref x), (1, .ref y)]) hx hb dX2_orderOfSizes_7 rfl hl (by decide) rfl (fun ls hl => ?_)
  refine lv_iload_n hx hb dX2_orderOfSizes_8 rfl (lv_at hl 0 rfl) ?_
  refine lv_aload_n hx hb dX2_orderOfSizes_9 rfl (lv_at hl 2 rfl) ?_
  refine va_gets (v := .ref (ad 4)) hx hb (hE.1.1 4 (by decide)).1 hS hown w_1 (fun _ h9 => h9) dX2_orderOfSizes_10 ?_
  refine vp_callSi (va_cr (va_runVN (As := [.ref (ad 4)]) (rest := [.int (bI (R_isOf tx fx 4))]) ⟨hx, hb, hml, hown, hts⟩ (c_X1_isOf l D ad y ty fy 4 (by decide)) ⟨va_cnB 1 hts gX2_orderOfSizes_X1_isOf_n112 rfl rfl rfl (hE.2.1 _ (List.mem_of_getElem? (i := 0) rfl)) w_2 kS_X1_isOf ⟨Nat.le_of_ble_eq_true rfl, Nat.le_of_ble_eq_true rfl⟩, w_3, w_4⟩ ⟨EB.blind, va_recv hK hP (ci := 0) (q0 := 1) rfl rfl, EB.pre (hK.sub [] rfl) (hP.sub [1] rfl) hE hS⟩ rfl rfl hl.1 rfl (lv_room (Nat.le_of_ble_eq_true rfl)) dX2_orderOfSizes_13 ⟨Nat.le_of_ble_eq_true rfl, Nat.le_of_ble_eq_true rfl⟩)) (fun r9 e9 => ?_)
  rw [e9]
  refine lv_icmp_eq (tgt := 29) hx hb dX2_orderOfSizes_16 (by decide) (fun c_1 => ?_) (fun c_1 => ?_)
  · refine lv_iload_n hx hb dX2_orderOfSizes_29 rfl (lv_at hl 0 rfl) ?_
    refine lv_if_eq (tgt := 35) hx hb dX2_orderOfSizes_30 (by decide) (fun c_2 => ?_) (fun c_2 => ?_)
    · refine lv_aload_n hx hb dX2_orderOfSizes_35 rfl (lv_at hl 1 rfl) ?_
      refine vp_callSi (va_cr (va_runVN (As := []) (rest := []) ⟨hx, hb, hml, hown, hts⟩ (c_X1_exponent l D ad x tx fx) ⟨va_cnB 0 hts gX2_orderOfSizes_X1_exponent_n219 rfl rfl rfl (hE.2.1 _ (List.mem_of_getElem? (i := 3) rfl)) w_2 kS_X1_exponent ⟨Nat.le_of_ble_eq_true rfl, Nat.le_of_ble_eq_true rfl⟩, w_5, w_6⟩ ⟨EB.blind, va_recv hK hP (ci := 0) (q0 := 0) rfl rfl, EB.pre (hK.sub [] rfl) (hP.sub [0] rfl) hE hS⟩ rfl rfl hl.1 rfl (lv_room (Nat.le_of_ble_eq_true rfl)) dX2_orderOfSizes_36 ⟨Nat.le_of_ble_eq_true rfl, Nat.le_of_ble_eq_true rfl⟩)) (fun r9 e9 => ?_)
      rw [e9]
      refine lv_aload_n hx hb dX2_orderOfSizes_39 rfl (lv_at hl 2 rfl) ?_
      refine vp_callSi (va_cr (va_runVN (As := []) (rest := [.int (R_exp tx fx)]) ⟨hx, hb, hml, hown, hts⟩ (c_X1_exponent l D ad y ty fy) ⟨va_cnB 0 hts gX2_orderOfSizes_X1_exponent_n219 rfl rfl rfl (hE.2.1 _ (List.mem_of_getElem? (i := 3) rfl)) w_2 kS_X1_exponent ⟨Nat.le_of_ble_eq_true rfl, Nat.le_of_ble_eq_true rfl⟩, w_5, w_6⟩ ⟨EB.blind, va_recv hK hP (ci := 0) (q0 := 1) rfl rfl, EB.pre (hK.sub [] rfl) (hP.sub [1] rfl) hE hS⟩ rfl rfl hl.1 rfl (lv_room (Nat.le_of_ble_eq_true rfl)) dX2_orderOfSizes_40 ⟨Nat.le_of_ble_eq_true rfl, Nat.le_of_ble_eq_true rfl⟩)) (fun r9 e9 => ?_)
      rw [e9]
      refine lv_icmp_eq (tgt := 63) hx hb dX2_orderOfSizes_43 (by decide) (fun c_3 => ?_) (fun c_3 => ?_)
      · refine lv_aload_n hx hb dX2_orderOfSizes_63 rfl (lv_at hl 1 rfl) ?_
        refine vp_callSl (va_cr (va_runVN (As := []) (rest := []) ⟨hx, hb, hml, hown, hts⟩ (c_X1_normalised l D ad x tx fx) ⟨va_cnB 0 hts gX2_orderOfSizes_X1_normalised_n229 rfl rfl rfl (hE.2.1 _ (List.mem_of_getElem? (i := 5) rfl)) w_2 kS_X1_normalised ⟨Nat.le_of_ble_eq_true rfl, Nat.le_of_ble_eq_true rfl⟩, w_7, w_8⟩ ⟨EB.blind, va_recv hK hP (ci := 0) (q0 := 0) rfl rfl, EB.pre (hK.sub [] rfl) (hP.sub [0] rfl) hE hS⟩ rfl rfl hl.1 rfl (lv_room (Nat.le_of_ble_eq_true rfl)) dX2_orderOfSizes_64 ⟨Nat.le_of_ble_eq_true rfl, Nat.le_of_ble_eq_true rfl⟩)) (fun r9 e9 => ?_)
        rw [e9]
        refine lv_aload_n hx hb dX2_orderOfSizes_67 rfl (lv_at hl 2 rfl) ?_
        refine vp_callSl (va_cr (va_runVN (As := []) (rest := [.long (R_norm fx)]) ⟨hx, hb, hml, hown, hts⟩ (c_X1_normalised l D ad y ty fy) ⟨va_cnB 0 hts gX2_orderOfSizes_X1_normalised_n229 rfl rfl rfl (hE.2.1 _ (List.mem_of_getElem? (i := 5) rfl)) w_2 kS_X1_normalised ⟨Nat.le_of_ble_eq_true rfl, Nat.le_of_ble_eq_true rfl⟩, w_7, w_8⟩ ⟨EB.blind, va_recv hK hP (ci := 0) (q0 := 1) rfl rfl, EB.pre (hK.sub [] rfl) (hP.sub [1] rfl) hE hS⟩ rfl rfl hl.1 rfl (lv_room (Nat.le_of_ble_eq_true rfl)) dX2_orderOfSizes_68 ⟨Nat.le_of_ble_eq_true rfl, Nat.le_of_ble_eq_true rfl⟩)) (fun r9 e9 => ?_)
        rw [e9]
        refine q_cl_ne (tgt := 77) hx hb dX2_orderOfSizes_71 dX2_orderOfSizes_72 (by decide) (fun c_4 => ?_) (fun c_4 => ?_)
        · refine lv_aload_n hx hb dX2_orderOfSizes_77 rfl (lv_at hl 1 rfl) ?_
          refine vp_callSl (va_cr (va_runVN (As := []) (rest := []) ⟨hx, hb, hml, hown, hts⟩ (c_X1_normalised l D ad x tx fx) ⟨va_cnB 0 hts gX2_orderOfSizes_X1_normalised_n229 rfl rfl rfl (hE.2.1 _ (List.mem_of_getElem? (i := 5) rfl)) w_2 kS_X1_normalised ⟨Nat.le_of_ble_eq_true rfl, Nat.le_of_ble_eq_true rfl⟩, w_7, w_8⟩ ⟨EB.blind, va_recv hK hP (ci := 0) (q0 := 0) rfl rfl, EB.pre (hK.sub [] rfl) (hP.sub [0] rfl) hE hS⟩ rfl rfl hl.1 rfl (lv_room (Nat.le_of_ble_eq_true rfl)) dX2_orderOfSizes_78 ⟨Nat.le_of_ble_eq_true rfl, Nat.le_of_ble_eq_true rfl⟩)) (fun r9 e9 => ?_)
          rw [e9]
          refine lv_aload_n hx hb dX2_orderOfSizes_81 rfl (lv_at hl 2 rfl) ?_
          refine vp_callSl (va_cr (va_runVN (As := []) (rest := [.long (R_norm fx)]) ⟨hx, hb, hml, hown, hts⟩ (c_X1_normalised l D ad y ty fy) ⟨va_cnB 0 hts gX2_orderOfSizes_X1_normalised_n229 rfl rfl rfl (hE.2.1 _ (List.mem_of_getElem? (i := 5) rfl)) w_2 kS_X1_normalised ⟨Nat.le_of_ble_eq_true rfl, Nat.le_of_ble_eq_true rfl⟩, w_7, w_8⟩ ⟨EB.blind, va_recv hK hP (ci := 0) (q0 := 1) rfl rfl, EB.pre (hK.sub [] rfl) (hP.sub [1] rfl) hE hS⟩ rfl rfl hl.1 rfl (lv_room (Nat.le_of_ble_eq_true rfl)) dX2_orderOfSizes_82 ⟨Nat.le_of_ble_eq_true rfl, Nat.le_of_ble_eq_true rfl⟩)) (fun r9 e9 => ?_)
          rw [e9]
          refine vp_callSi (va_cr (va_runS (As := [.long (R_norm fx), .long (R_norm fy)]) (rest := []) ⟨hx, hb, hml, hown, hts⟩ (c_J13_compareUnsigned_74951 l (R_norm fx) (R_norm fy)) (va_cwS 2 hts gX2_orderOfSizes_J13_compareUnsigned_74951 rfl rfl rfl kS_J13_compareUnsigned_74951 ⟨Nat.le_of_ble_eq_true rfl, Nat.le_of_ble_eq_true rfl⟩) ⟨TB.blind, TB.pre⟩ rfl rfl hl.1 rfl (lv_room (Nat.le_of_ble_eq_true rfl)) dX2_orderOfSizes_85 ⟨Nat.le_of_ble_eq_true rfl, Nat.le_of_ble_eq_true rfl⟩)) (fun r9 e9 => ?_)
          rw [e9]
          refine q_cut (v := (if 0 ≤ (J_cmpU (R_norm fx) (R_norm fy)) then (1 : Int32) else (-1 : Int32))) (pcJ := 96) (rest := []) (fun J => ?_) ?_
          · refine lv_if_ge (tgt := 95) hx hb dX2_orderOfSizes_88 (by decide) (fun c_5 => ?_) (fun c_5 => ?_)
            · refine lv_iconst (v := 1) hx hb dX2_orderOfSizes_95 (by decide) ?_
              exact J _ (by rw [if_pos c_5]; try rfl)
            · refine lv_iconst (v := (-1)) hx hb dX2_orderOfSizes_91 (by decide) ?_
              refine lv_goto (tgt := 96) hx hb dX2_orderOfSizes_92 (by decide) ?_
              exact J _ (by rw [if_neg c_5]; try rfl)
          have hw : R_sizes tx fx ty fy = (if 0 ≤ (J_cmpU (R_norm fx) (R_norm fy)) then (1 : Int32) else (-1 : Int32)) := by unfold R_sizes; rw [if_pos c_1, if_pos c_2, if_pos c_3, if_neg c_4]; try rfl
          exact W.iret hx hb hr (fun t9 ht hW => ⟨_, rfl, hw.symm, ht⟩) t_nil dX2_orderOfSizes_96
        · refine lv_iconst (v := 0) hx hb dX2_orderOfSizes_75 (by decide) ?_
          have hw : R_sizes tx fx ty fy = 0 := by unfold R_sizes; rw [if_pos c_1, if_pos c_2, if_pos c_3, if_pos c_4]; try rfl
          exact W.iret hx hb hr (fun t9 ht hW => ⟨_, rfl, hw.symm, ht⟩) t_nil dX2_orderOfSizes_76
      · refine lv_aload_n hx hb dX2_orderOfSizes_46 rfl (lv_at hl 1 rfl) ?_
        refine vp_callSi (va_cr (va_runVN (As := []) (rest := []) ⟨hx, hb, hml, hown, hts⟩ (c_X1_exponent l D ad x tx fx) ⟨va_cnB 0 hts gX2_orderOfSizes_X1_exponent_n219 rfl rfl rfl (hE.2.1 _ (List.mem_of_getElem? (i := 3) rfl)) w_2 kS_X1_exponent ⟨Nat.le_of_ble_eq_true rfl, Nat.le_of_ble_eq_true rfl⟩, w_5, w_6⟩ ⟨EB.blind, va_recv hK hP (ci := 0) (q0 := 0) rfl rfl, EB.pre (hK.sub [] rfl) (hP.sub [0] rfl) hE hS⟩ rfl rfl hl.1 rfl (lv_room (Nat.le_of_ble_eq_true rfl)) dX2_orderOfSizes_47 ⟨Nat.le_of_ble_eq_true rfl, Nat.le_of_ble_eq_true rfl⟩)) (fun r9 e9 => ?_)
        rw [e9]
        refine lv_aload_n hx hb dX2_orderOfSizes_50 rfl (lv_at hl 2 rfl) ?_
        refine vp_callSi (va_cr (va_runVN (As := []) (rest := [.int (R_exp tx fx)]) ⟨hx, hb, hml, hown, hts⟩ (c_X1_exponent l D ad y ty fy) ⟨va_cnB 0 hts gX2_orderOfSizes_X1_exponent_n219 rfl rfl rfl (hE.2.1 _ (List.mem_of_getElem? (i := 3) rfl)) w_2 kS_X1_exponent ⟨Nat.le_of_ble_eq_true rfl, Nat.le_of_ble_eq_true rfl⟩, w_5, w_6⟩ ⟨EB.blind, va_recv hK hP (ci := 0) (q0 := 1) rfl rfl, EB.pre (hK.sub [] rfl) (hP.sub [1] rfl) hE hS⟩ rfl rfl hl.1 rfl (lv_room (Nat.le_of_ble_eq_true rfl)) dX2_orderOfSizes_51 ⟨Nat.le_of_ble_eq_true rfl, Nat.le_of_ble_eq_true rfl⟩)) (fun r9 e9 => ?_)
        rw [e9]
        refine q_cut (v := (if (R_exp ty fy) ≤ (R_exp tx fx) then (1 : Int32) else (-1 : Int32))) (pcJ := 62) (rest := []) (fun J => ?_) ?_
        · refine lv_icmp_ge (tgt := 61) hx hb dX2_orderOfSizes_54 (by decide) (fun c_6 => ?_) (fun c_6 => ?_)
          · refine lv_iconst (v := 1) hx hb dX2_orderOfSizes_61 (by decide) ?_
            exact J _ (by rw [if_pos c_6]; try rfl)
          · refine lv_iconst (v := (-1)) hx hb dX2_orderOfSizes_57 (by decide) ?_
            refine lv_goto (tgt := 62) hx hb dX2_orderOfSizes_58 (by decide) ?_
            exact J _ (by rw [if_neg c_6]; try rfl)
        have hw : R_sizes tx fx ty fy = (if (R_exp ty fy) ≤ (R_exp tx fx) then (1 : Int32) else (-1 : Int32)) := by unfold R_sizes; rw [if_pos c_1, if_pos c_2, if_neg c_3]; try rfl
        exact W.iret hx hb hr (fun t9 ht hW => ⟨_, rfl, hw.symm, ht⟩) t_nil dX2_orderOfSizes_62
    · refine lv_iconst (v := 0) hx hb dX2_orderOfSizes_33 (by decide) ?_
      have hw : R_sizes tx fx ty fy = 0 := by unfold R_sizes; rw [if_pos c_1, if_neg c_2]; try rfl
      exact W.iret hx hb hr (fun t9 ht hW => ⟨_, rfl, hw.symm, ht⟩) t_nil dX2_orderOfSizes_34
  · refine lv_iload_n hx hb dX2_orderOfSizes_19 rfl (lv_at hl 0 rfl) ?_
    refine q_cut (v := (if bI (R_isOf tx fx 4) = 0 then (-1 : Int32) else (1 : Int32))) (pcJ := 28) (rest := []) (fun J => ?_) ?_
    · refine lv_if_eq (tgt := 27) hx hb dX2_orderOfSizes_20 (by decide) (fun c_7 => ?_) (fun c_7 => ?_)
      · refine lv_iconst (v := (-1)) hx hb dX2_orderOfSizes_27 (by decide) ?_
        exact J _ (by rw [if_pos c_7]; try rfl)
      · refine lv_iconst (v := 1) hx hb dX2_orderOfSizes_23 (by decide) ?_
        refine lv_goto (tgt := 28) hx hb dX2_orderOfSizes_24 (by decide) ?_
        exact J _ (by rw [if_neg c_7]; try rfl)
    have hw : R_sizes tx fx ty fy = (if bI (R_isOf tx fx 4) = 0 then (-1 : Int32) else (1 : Int32)) := by unfold R_sizes; rw [if_neg c_1]; try rfl
    exact W.iret hx hb hr (fun t9 ht hW => ⟨_, rfl, hw.symm, ht⟩) t_nil dX2_orderOfSizes_28
def R_rounding (cw : Int32) : Int32 :=
  ((jiushr cw 10) &&& 3)
theorem kS_X2_rounding : yX2_rounding.cls ≠ "java/lang/invoke/MethodHandle" ∧ yX2_rounding.cls ≠ "java/lang/invoke/VarHandle" ∧ (parseMethodDescriptor yX2_rounding.desc).map (fun d => d.parameters.length) = some 0 := by decide +kernel
theorem kV_X2_rounding : yX2_rounding.cls = RX2 ∧ yX2_rounding.cls ≠ "java/lang/invoke/MethodHandle" ∧ yX2_rounding.cls ≠ "java/lang/invoke/VarHandle" ∧ (parseMethodDescriptor yX2_rounding.desc).map (fun d => d.parameters.length) = some 0 := ⟨rfl, kS_X2_rounding⟩
set_option maxHeartbeats 4000000 in
set_option maxRecDepth 100000 in
theorem c_X2_rounding (l : Launch) (D : va_G) (h : Nat) (q1 : Nat) (q2 : Nat) (cw : Int32) (td : Int32) (an : Bool) (qb : Int32) (pa : Bool) : Met l yX2_rounding wsX2_rounding ({ frames := 0, cells := 0, slots := 0, locals := 0 } : Room) (va_Pc [.ref h] (PB D [] [(h, .inr (1, [.ref q1, .ref q2, .int cw, .int td, .int (bI an), .int qb, .int (bI pa)]))])) (vp_Si (fun r => r = R_rounding cw)) 0 0 (fun _ => False) := by
  refine Met.ofW (cc := cX2_rounding) (maxL := 1) (ret := (some .int)) (by decide) rfl ?_
  intro p e s m args below meth c s₁ B hml hv
  obtain ⟨rfl, hP, hK⟩ := hv
  have hx := B.exec
  have hb := B.bytes
  have hr := B.returns
  have hts := atoms_spec (ws := wsX2_rounding) B.pre
  have hown : s.vm.findClass RX2 = some m.cls := findClass_of_methodNamed B.named
  have hlocks := B.notSynchronized
  have w_1 := hts (.fieldLink RX2 17 "RealSteps" "controlWord" "I") (by decide +kernel)
  have in_X2 : ∀ w ∈ wsX20, w ∈ wsX2_rounding := by decide +kernel
  have hl := lv_entry ([.ref h]) (n := 1) (Nat.le_of_ble_eq_true rfl)
  rw [lg_entry_eq]
  generalize (lg_sl ([.ref h]) ++ List.replicate (1 - (lg_sl ([.ref h])).length) Slot.unset).toArray = ls at hl ⊢
  have hl : lv_has ls 1 [(0, .ref h)] := hl
  refine lv_aload_n hx hb dX2_rounding_0 rfl (lv_at hl 0 rfl) ?_
  refine va_get (v := .int cw) (C := RX2) (T := TX2) (N := 7) hx hb hts in_X2 hown hK hP 0 rfl rfl 2 (by decide) w_1 (fun _ h9 => h9) rfl dX2_rounding_1 ?_
  refine lv_bipush (v := 10) hx hb dX2_rounding_4 (by decide) ?_
  refine lv_iushr (v := (jiushr cw 10)) hx hb dX2_rounding_6 rfl ?_
  refine lv_iconst (v := 3) hx hb dX2_rounding_7 (by decide) ?_
  refine lv_iand hx hb dX2_rounding_8 ?_
  have hw : R_rounding cw = ((jiushr cw 10) &&& 3) := rfl
  exact W.iret hx hb hr (fun t9 ht hW => ⟨_, rfl, hw.symm, ht⟩) t_nil dX2_rounding_9
def R_masked (cw : Int32) (bit : Int32) : Bool :=
  (if (cw &&& bit) = 0 then false else true)
theorem kS_X2_isMasked : yX2_isMasked.cls ≠ "java/lang/invoke/MethodHandle" ∧ yX2_isMasked.cls ≠ "java/lang/invoke/VarHandle" ∧ (parseMethodDescriptor yX2_isMasked.desc).map (fun d => d.parameters.length) = some 1 := by decide +kernel
theorem kV_X2_isMasked : yX2_isMasked.cls = RX2 ∧ yX2_isMasked.cls ≠ "java/lang/invoke/MethodHandle" ∧ yX2_isMasked.cls ≠ "java/lang/invoke/VarHandle" ∧ (parseMethodDescriptor yX2_isMasked.desc).map (fun d => d.parameters.length) = some 1 := ⟨rfl, kS_X2_isMasked⟩
set_option maxHeartbeats 4000000 in
set_option maxRecDepth 100000 in
theorem c_X2_isMasked (l : Launch) (D : va_G) (h : Nat) (q1 : Nat) (q2 : Nat) (cw : Int32) (td : Int32) (an : Bool) (qb : Int32) (pa : Bool) (bit : Int32) : Met l yX2_isMasked wsX2_isMasked ({ frames := 0, cells := 0, slots := 0, locals := 0 } : Room) (va_Pc [.ref h, .int bit] (PB D [] [(h, .inr (1, [.ref q1, .ref q2, .int cw, .int td, .int (bI an), .int qb, .int (bI pa)]))])) (vp_Si (fun r => r = bI (R_masked cw bit))) 0 0 (fun _ => False) := by
  refine Met.ofW (cc := cX2_isMasked) (maxL := 2) (ret := (some .boolean)) (by decide) rfl ?_
  intro p e s m args below meth c s₁ B hml hv
  obtain ⟨rfl, hP, hK⟩ := hv
  have hx := B.exec
  have hb := B.bytes
  have hr := B.returns
  have hts := atoms_spec (ws := wsX2_isMasked) B.pre
  have hown : s.vm.findClass RX2 = some m.cls := findClass_of_methodNamed B.named
  have hlocks := B.notSynchronized
  have w_1 := hts (.fieldLink RX2 17 "RealSteps" "controlWord" "I") (by decide +kernel)
  have in_X2 : ∀ w ∈ wsX20, w ∈ wsX2_isMasked := by decide +kernel
  have hl := lv_entry ([.ref h, .int bit]) (n := 2) (Nat.le_of_ble_eq_true rfl)
  rw [lg_entry_eq]
  generalize (lg_sl ([.ref h, .int bit]) ++ List.replicate (2 - (lg_sl ([.ref h, .int bit])).length) Slot.unset).toArray = ls at hl ⊢
  have hl : lv_has ls 2 [(0, .ref h), (1, .int bit)] := hl
  refine lv_aload_n hx hb dX2_isMasked_0 rfl (lv_at hl 0 rfl) ?_
  refine va_get (v := .int cw) (C := RX2) (T := TX2) (N := 7) hx hb hts in_X2 hown hK hP 0 rfl rfl 2 (by decide) w_1 (fun _ h9 => h9) rfl dX2_isMasked_1 ?_
  refine lv_iload_n hx hb dX2_isMasked_4 rfl (lv_at hl 1 rfl) ?_
  refine lv_iand hx hb dX2_isMasked_5 ?_
  refine q_cut (v := bI (if (cw &&& bit) = 0 then false else true)) (pcJ := 14) (rest := []) (fun J => ?_) ?_
  · refine lv_if_eq (tgt := 13) hx hb dX2_isMasked_6 (by decide) (fun c_1 => ?_) (fun c_1 => ?_)
    · refine lv_iconst (v := 0) hx hb dX2_isMasked_13 (by decide) ?_
      exact J _ (by rw [if_pos c_1]; try rfl)
    · refine lv_iconst (v := 1) hx hb dX2_isMasked_9 (by decide) ?_
      refine lv_goto (tgt := 14) hx hb dX2_isMasked_10 (by decide) ?_
      exact J _ (by rw [if_neg c_1]; try rfl)
  have hw : R_masked cw bit = (if (cw &&& bit) = 0 then false else true) := rfl
  exact W.zret hx hb hr (bI_nar _) (fun t9 ht hW => ⟨_, rfl, (congrArg bI hw).symm, ht⟩) t_nil dX2_isMasked_14
def R_rounded (cw : Int32) (ng : Bool) (fr : Int64) (sh : Int32) : Int64 :=
  if bI (R_isCut fr sh) = 0 then (if sh ≤ 63 then (jlushr fr sh) else (0 : Int64))
  else if (R_rounding cw) = 1 then (if bI ng = 0 then (if sh ≤ 63 then (jlushr fr sh) else (0 : Int64)) else ((if sh ≤ 63 then (jlushr fr sh) else (0 : Int64)) + 1))
  else if (R_rounding cw) = 2 then (if bI (if bI ng = 0 then true else false) = 0 then (if sh ≤ 63 then (jlushr fr sh) else (0 : Int64)) else ((if sh ≤ 63 then (jlushr fr sh) else (0 : Int64)) + 1))
  else if (R_rounding cw) = 3 then (if sh ≤ 63 then (jlushr fr sh) else (0 : Int64))
  else (if bI (R_nearer fr sh (if sh ≤ 63 then (jlushr fr sh) else (0 : Int64))) = 0 then (if sh ≤ 63 then (jlushr fr sh) else (0 : Int64)) else ((if sh ≤ 63 then (jlushr fr sh) else (0 : Int64)) + 1))
theorem kS_X2_rounded : yX2_rounded.cls ≠ "java/lang/invoke/MethodHandle" ∧ yX2_rounded.cls ≠ "java/lang/invoke/VarHandle" ∧ (parseMethodDescriptor yX2_rounded.desc).map (fun d => d.parameters.length) = some 3 := by decide +kernel
theorem kV_X2_rounded : yX2_rounded.cls = RX2 ∧ yX2_rounded.cls ≠ "java/lang/invoke/MethodHandle" ∧ yX2_rounded.cls ≠ "java/lang/invoke/VarHandle" ∧ (parseMethodDescriptor yX2_rounded.desc).map (fun d => d.parameters.length) = some 3 := ⟨rfl, kS_X2_rounded⟩
set_option maxHeartbeats 4000000 in
set_option maxRecDepth 100000 in
theorem c_X2_rounded (l : Launch) (D : va_G) (h : Nat) (q1 : Nat) (q2 : Nat) (cw : Int32) (td : Int32) (an : Bool) (qb : Int32) (pa : Bool) (ng : Bool) (fr : Int64) (sh : Int32) : Met l yX2_rounded wsX2_rounded ({ frames := 3, cells := 0, slots := 0, locals := 74 } : Room) (va_Pc [.ref h, .int (bI ng), .long fr, .int sh] (PB D [] [(h, .inr (1, [.ref q1, .ref q2, .int cw, .int td, .int (bI an), .int qb, .int (bI pa)]))])) (vp_Sl (fun r => r = R_rounded cw ng fr sh)) 0 0 (fun _ => False) := by
  refine Met.ofW (cc := cX2_rounded) (maxL := 8) (ret := (some .long)) (by decide) rfl ?_
  intro p e s m args below meth c s₁ B hml hv
  obtain ⟨rfl, hP, hK⟩ := hv
  have hx := B.exec
  have hb := B.bytes
  have hr := B.returns
  have hts := atoms_spec (ws := wsX2_rounded) B.pre
  have hown : s.vm.findClass RX2 = some m.cls := findClass_of_methodNamed B.named
  have hlocks := B.notSynchronized
  have hl := lv_entry ([.ref h, .int (bI ng), .long fr, .int sh]) (n := 8) (Nat.le_of_ble_eq_true rfl)
  rw [lg_entry_eq]
  generalize (lg_sl ([.ref h, .int (bI ng), .long fr, .int sh]) ++ List.replicate (8 - (lg_sl ([.ref h, .int (bI ng), .long fr, .int sh])).length) Slot.unset).toArray = ls at hl ⊢
  have hl : lv_has ls 8 [(0, .ref h), (1, .int (bI ng)), (2, .long fr), (4, .int sh)] := hl
  refine lv_iload hx hb dX2_rounded_0 (lv_at hl 3 rfl) ?_
  refine lv_bipush (v := 63) hx hb dX2_rounded_2 (by decide) ?_
  refine q_cutL (v := (if sh ≤ 63 then (jlushr fr sh) else (0 : Int64))) (pcJ := 15) (rest := []) (fun J => ?_) ?_
  · refine lv_icmp_le (tgt := 11) hx hb dX2_rounded_4 (by decide) (fun c_1 => ?_) (fun c_1 => ?_)
    · refine lv_lload_n hx hb dX2_rounded_11 rfl (lv_at hl 2 rfl) ?_
      refine lv_iload hx hb dX2_rounded_12 (lv_at hl 3 rfl) ?_
      refine lv_lushr (v := (jlushr fr sh)) hx hb dX2_rounded_14 rfl ?_
      exact J _ (by rw [if_pos c_1]; try rfl)
    · refine lv_lconst (v := 0) hx hb dX2_rounded_7 (by decide) ?_
      refine lv_goto (tgt := 15) hx hb dX2_rounded_8 (by decide) ?_
      exact J _ (by rw [if_neg c_1]; try rfl)
  refine lv_lstore (lv' := [(5, .long (if sh ≤ 63 then (jlushr fr sh) else (0 : Int64))), (0, .ref h), (1, .int (bI ng)), (2, .long fr), (4, .int sh)]) hx hb dX2_rounded_15 hl (by decide) rfl (fun ls hl => ?_)
  refine lv_lload_n hx hb dX2_rounded_17 rfl (lv_at hl 3 rfl) ?_
  refine lv_iload hx hb dX2_rounded_18 (lv_at hl 4 rfl) ?_
  refine vp_callSi (va_cr (va_runS (As := [.long fr, .int sh]) (rest := []) ⟨hx, hb, hml, hown, hts⟩ (c_X2_isCut l fr sh) (va_cwS 2 hts gX2_rounded_X2_isCut rfl rfl rfl kS_X2_isCut ⟨Nat.le_of_ble_eq_true rfl, Nat.le_of_ble_eq_true rfl⟩) ⟨TB.blind, TB.pre⟩ rfl rfl hl.1 rfl (lv_room (Nat.le_of_ble_eq_true rfl)) dX2_rounded_20 ⟨Nat.le_of_ble_eq_true rfl, Nat.le_of_ble_eq_true rfl⟩)) (fun r9 e9 => ?_)
  rw [e9]
  refine lv_if_ne (tgt := 29) hx hb dX2_rounded_23 (by decide) (fun c_2 => ?_) (fun c_2 => ?_)
  · refine lv_aload_n hx hb dX2_rounded_29 rfl (lv_at hl 1 rfl) ?_
    refine vp_callSi (va_cr (va_runV (As := []) (rest := []) ⟨hx, hb, hml, hown, hts⟩ (c_X2_rounding l D h q1 q2 cw td an qb pa) (cwV 0 hts gX2_rounded_X2_rounding rfl rfl rfl kV_X2_rounding ⟨Nat.le_of_ble_eq_true rfl, Nat.le_of_ble_eq_true rfl⟩) ⟨PB.blind, va_recv hK hP (ci := 1) (q0 := 0) rfl rfl, PB.pre (hK.sub [] rfl) (hP.sub [0] rfl)⟩ rfl rfl hl.1 rfl (lv_room (Nat.le_of_ble_eq_true rfl)) dX2_rounded_30 ⟨Nat.le_of_ble_eq_true rfl, Nat.le_of_ble_eq_true rfl⟩)) (fun r9 e9 => ?_)
    rw [e9]
    refine (dite ((R_rounding cw) = 1) (fun c_3 => ?_) (fun c_3 => ?_))
    · refine lv_tableIn (tgt := 60) hx hb dX2_rounded_33 (by rw [c_3]; decide) (by rw [c_3]; decide) (by rw [c_3]; rfl) (by decide) ?_
      refine lv_iload_n hx hb dX2_rounded_60 rfl (lv_at hl 2 rfl) ?_
      refine lv_istore (lv' := [(7, .int (bI ng)), (5, .long (if sh ≤ 63 then (jlushr fr sh) else (0 : Int64))), (0, .ref h), (1, .int (bI ng)), (2, .long fr), (4, .int sh)]) hx hb dX2_rounded_61 hl (by decide) rfl (fun ls hl => ?_)
      refine lv_goto (tgt := 96) hx hb dX2_rounded_63 (by decide) ?_
      refine lv_iload hx hb dX2_rounded_96 (lv_at hl 0 rfl) ?_
      refine q_cutL (v := (if bI ng = 0 then (if sh ≤ 63 then (jlushr fr sh) else (0 : Int64)) else ((if sh ≤ 63 then (jlushr fr sh) else (0 : Int64)) + 1))) (pcJ := 110) (rest := []) (fun J => ?_) ?_
      · refine lv_if_eq (tgt := 108) hx hb dX2_rounded_98 (by decide) (fun c_4 => ?_) (fun c_4 => ?_)
        · refine lv_lload hx hb dX2_rounded_108 (lv_at hl 1 rfl) ?_
          exact J _ (by rw [if_pos c_4]; try rfl)
        · refine lv_lload hx hb dX2_rounded_101 (lv_at hl 1 rfl) ?_
          refine lv_lconst (v := 1) hx hb dX2_rounded_103 (by decide) ?_
          refine lv_ladd hx hb dX2_rounded_104 ?_
          refine lv_goto (tgt := 110) hx hb dX2_rounded_105 (by decide) ?_
          exact J _ (by rw [if_neg c_4]; try rfl)
      have hw : R_rounded cw ng fr sh = (if bI ng = 0 then (if sh ≤ 63 then (jlushr fr sh) else (0 : Int64)) else ((if sh ≤ 63 then (jlushr fr sh) else (0 : Int64)) + 1)) := by unfold R_rounded; rw [if_neg c_2, if_pos c_3]; try rfl
      exact W.lret hx hb hr (fun t9 ht hW => ⟨_, rfl, hw.symm, ht⟩) t_nil dX2_rounded_110
    · refine (dite ((R_rounding cw) = 2) (fun c_5 => ?_) (fun c_5 => ?_))
      · refine lv_tableIn (tgt := 66) hx hb dX2_rounded_33 (by rw [c_5]; decide) (by rw [c_5]; decide) (by rw [c_5]; rfl) (by decide) ?_
        refine lv_iload_n hx hb dX2_rounded_66 rfl (lv_at hl 2 rfl) ?_
        refine q_cut (v := bI (if bI ng = 0 then true else false)) (pcJ := 75) (rest := []) (fun J => ?_) ?_
        · refine lv_if_ne (tgt := 74) hx hb dX2_rounded_67 (by decide) (fun c_6 => ?_) (fun c_6 => ?_)
          · refine lv_iconst (v := 0) hx hb dX2_rounded_74 (by decide) ?_
            exact J _ (by rw [if_neg c_6]; try rfl)
          · refine lv_iconst (v := 1) hx hb dX2_rounded_70 (by decide) ?_
            refine lv_goto (tgt := 75) hx hb dX2_rounded_71 (by decide) ?_
            exact J _ (by rw [if_pos c_6]; try rfl)
        refine lv_istore (lv' := [(7, .int (bI (if bI ng = 0 then true else false))), (5, .long (if sh ≤ 63 then (jlushr fr sh) else (0 : Int64))), (0, .ref h), (1, .int (bI ng)), (2, .long fr), (4, .int sh)]) hx hb dX2_rounded_75 hl (by decide) rfl (fun ls hl => ?_)
        refine lv_goto (tgt := 96) hx hb dX2_rounded_77 (by decide) ?_
        refine lv_iload hx hb dX2_rounded_96 (lv_at hl 0 rfl) ?_
        refine q_cutL (v := (if bI (if bI ng = 0 then true else false) = 0 then (if sh ≤ 63 then (jlushr fr sh) else (0 : Int64)) else ((if sh ≤ 63 then (jlushr fr sh) else (0 : Int64)) + 1))) (pcJ := 110) (rest := []) (fun J => ?_) ?_
        · refine lv_if_eq (tgt := 108) hx hb dX2_rounded_98 (by decide) (fun c_7 => ?_) (fun c_7 => ?_)
          · refine lv_lload hx hb dX2_rounded_108 (lv_at hl 1 rfl) ?_
            exact J _ (by rw [if_pos c_7]; try rfl)
          · refine lv_lload hx hb dX2_rounded_101 (lv_at hl 1 rfl) ?_
            refine lv_lconst (v := 1) hx hb dX2_rounded_103 (by decide) ?_
            refine lv_ladd hx hb dX2_rounded_104 ?_
            refine lv_goto (tgt := 110) hx hb dX2_rounded_105 (by decide) ?_
            exact J _ (by rw [if_neg c_7]; try rfl)
        have hw : R_rounded cw ng fr sh = (if bI (if bI ng = 0 then true else false) = 0 then (if sh ≤ 63 then (jlushr fr sh) else (0 : Int64)) else ((if sh ≤ 63 then (jlushr fr sh) else (0 : Int64)) + 1)) := by unfold R_rounded; rw [if_neg c_2, if_neg c_3, if_pos c_5]; try rfl
        exact W.lret hx hb hr (fun t9 ht hW => ⟨_, rfl, hw.symm, ht⟩) t_nil dX2_rounded_110
      · refine (dite ((R_rounding cw) = 3) (fun c_8 => ?_) (fun c_8 => ?_))
        · refine lv_tableIn (tgt := 80) hx hb dX2_rounded_33 (by rw [c_8]; decide) (by rw [c_8]; decide) (by rw [c_8]; rfl) (by decide) ?_
          refine lv_iconst (v := 0) hx hb dX2_rounded_80 (by decide) ?_
          refine lv_istore (lv' := [(7, .int 0), (5, .long (if sh ≤ 63 then (jlushr fr sh) else (0 : Int64))), (0, .ref h), (1, .int (bI ng)), (2, .long fr), (4, .int sh)]) hx hb dX2_rounded_81 hl (by decide) rfl (fun ls hl => ?_)
          refine lv_goto (tgt := 96) hx hb dX2_rounded_83 (by decide) ?_
          refine lv_iload hx hb dX2_rounded_96 (lv_at hl 0 rfl) ?_
          refine lv_if_eq (tgt := 108) hx hb dX2_rounded_98 (by decide) (fun c_9 => ?_) (fun c_9 => ?_)
          · refine lv_lload hx hb dX2_rounded_108 (lv_at hl 1 rfl) ?_
            have hw : R_rounded cw ng fr sh = (if sh ≤ 63 then (jlushr fr sh) else (0 : Int64)) := by unfold R_rounded; rw [if_neg c_2, if_neg c_3, if_neg c_5, if_pos c_8]; try rfl
            exact W.lret hx hb hr (fun t9 ht hW => ⟨_, rfl, hw.symm, ht⟩) t_nil dX2_rounded_110
          · exact absurd c_9 (by decide)
        · refine lv_tableOut (tgt := 86) hx hb dX2_rounded_33 (sw_out_1_3 c_3 c_5 c_8) (by decide) ?_
          refine lv_lload_n hx hb dX2_rounded_86 rfl (lv_at hl 3 rfl) ?_
          refine lv_iload hx hb dX2_rounded_87 (lv_at hl 4 rfl) ?_
          refine lv_lload hx hb dX2_rounded_89 (lv_at hl 0 rfl) ?_
          refine vp_callSi (va_cr (va_runS (As := [.long fr, .int sh, .long (if sh ≤ 63 then (jlushr fr sh) else (0 : Int64))]) (rest := []) ⟨hx, hb, hml, hown, hts⟩ (c_X2_isNearerAbove l fr sh (if sh ≤ 63 then (jlushr fr sh) else (0 : Int64))) (va_cwS 3 hts gX2_rounded_X2_isNearerAbove rfl rfl rfl kS_X2_isNearerAbove ⟨Nat.le_of_ble_eq_true rfl, Nat.le_of_ble_eq_true rfl⟩) ⟨TB.blind, TB.pre⟩ rfl rfl hl.1 rfl (lv_room (Nat.le_of_ble_eq_true rfl)) dX2_rounded_91 ⟨Nat.le_of_ble_eq_true rfl, Nat.le_of_ble_eq_true rfl⟩)) (fun r9 e9 => ?_)
          rw [e9]
          refine lv_istore (lv' := [(7, .int (bI (R_nearer fr sh (if sh ≤ 63 then (jlushr fr sh) else (0 : Int64))))), (5, .long (if sh ≤ 63 then (jlushr fr sh) else (0 : Int64))), (0, .ref h), (1, .int (bI ng)), (2, .long fr), (4, .int sh)]) hx hb dX2_rounded_94 hl (by decide) rfl (fun ls hl => ?_)
          refine lv_iload hx hb dX2_rounded_96 (lv_at hl 0 rfl) ?_
          refine q_cutL (v := (if bI (R_nearer fr sh (if sh ≤ 63 then (jlushr fr sh) else (0 : Int64))) = 0 then (if sh ≤ 63 then (jlushr fr sh) else (0 : Int64)) else ((if sh ≤ 63 then (jlushr fr sh) else (0 : Int64)) + 1))) (pcJ := 110) (rest := []) (fun J => ?_) ?_
          · refine lv_if_eq (tgt := 108) hx hb dX2_rounded_98 (by decide) (fun c_11 => ?_) (fun c_11 => ?_)
            · refine lv_lload hx hb dX2_rounded_108 (lv_at hl 1 rfl) ?_
              exact J _ (by rw [if_pos c_11]; try rfl)
            · refine lv_lload hx hb dX2_rounded_101 (lv_at hl 1 rfl) ?_
              refine lv_lconst (v := 1) hx hb dX2_rounded_103 (by decide) ?_
              refine lv_ladd hx hb dX2_rounded_104 ?_
              refine lv_goto (tgt := 110) hx hb dX2_rounded_105 (by decide) ?_
              exact J _ (by rw [if_neg c_11]; try rfl)
          have hw : R_rounded cw ng fr sh = (if bI (R_nearer fr sh (if sh ≤ 63 then (jlushr fr sh) else (0 : Int64))) = 0 then (if sh ≤ 63 then (jlushr fr sh) else (0 : Int64)) else ((if sh ≤ 63 then (jlushr fr sh) else (0 : Int64)) + 1)) := by unfold R_rounded; rw [if_neg c_2, if_neg c_3, if_neg c_5, if_neg c_8]; try rfl
          exact W.lret hx hb hr (fun t9 ht hW => ⟨_, rfl, hw.symm, ht⟩) t_nil dX2_rounded_110
  · refine lv_lload hx hb dX2_rounded_26 (lv_at hl 0 rfl) ?_
    have hw : R_rounded cw ng fr sh = (if sh ≤ 63 then (jlushr fr sh) else (0 : Int64)) := by unfold R_rounded; rw [if_pos c_2]; try rfl
    exact W.lret hx hb hr (fun t9 ht hW => ⟨_, rfl, hw.symm, ht⟩) t_nil dX2_rounded_28
def R_zero (ng : Bool) : Int32 × Int64 :=
  ((R_signOf ng), 0)
theorem kS_X2_zero : yX2_zero.cls ≠ "java/lang/invoke/MethodHandle" ∧ yX2_zero.cls ≠ "java/lang/invoke/VarHandle" ∧ (parseMethodDescriptor yX2_zero.desc).map (fun d => d.parameters.length) = some 1 := by decide +kernel
set_option maxHeartbeats 4000000 in
set_option maxRecDepth 100000 in
theorem c_X2_zero (l : Launch) (D : va_G) (ad : Nat → Nat) (ng : Bool) (sz : Nat) : Met l yX2_zero wsX2_zero ({ frames := 2, cells := 1, slots := 2, locals := 35 } : Room) (va_Pc [.int (bI ng)] (SCB D ad [] sz)) (va_Qr (fun (_ : Unit) => True) (fun _ a t => ∃ (w_t : Int32) (w_f : Int64), R_zero ng = (w_t, w_f) ∧ va_P D vwCl [cReal a w_t w_f] t.heap ∧ (sz ≤ a)) (va_A [] sz)) 1 2 (va_A [] sz) := by
  refine Met.ofW (cc := cX2_zero) (maxL := 1) (ret := (some (.object "RealSteps$Real"))) (by decide) rfl ?_
  intro p e s m args below meth c s₁ B hml hv
  obtain ⟨rfl, hsz, hK, hR0, hE⟩ := hv
  have hx := B.exec
  have hb := B.bytes
  have hr := B.returns
  have hts := atoms_spec (ws := wsX2_zero) B.pre
  have hown : s.vm.findClass RX2 = some m.cls := findClass_of_methodNamed B.named
  have hlocks := B.notSynchronized
  have w_1 := hts (.classLink RX2 48 RX1) (by decide +kernel)
  have w_2 := hts (.instantiable RX1 2) (by decide +kernel)
  have w_3 := hts (.initialized RX1) (by decide +kernel)
  have in_X1 : ∀ w ∈ wsX10, w ∈ wsX2_zero := by decide +kernel
  have w_5 := hts (.instanceMethod yX1_init) (by decide +kernel)
  subst hsz
  have hRA := rs_A0 hR0
  obtain ⟨A, hAe⟩ : ∃ A, va_A [] s.heap.size = A := ⟨_, rfl⟩
  have nzA : ∀ q : Nat, A q → s.heap.size ≤ q := fun q h => va_A_nil (by rw [hAe]; exact h)
  rw [hAe] at hE hRA ⊢
  have hA : ∀ q : Nat, s.heap.size ≤ q → A q := fun q h => by rw [← hAe]; exact Or.inr h
  have hS : va_S A s.heap s.heap [] := va_S.rf
  have hl := lv_entry ([.int (bI ng)]) (n := 1) (Nat.le_of_ble_eq_true rfl)
  rw [lg_entry_eq]
  generalize (lg_sl ([.int (bI ng)]) ++ List.replicate (1 - (lg_sl ([.int (bI ng)])).length) Slot.unset).toArray = ls at hl ⊢
  have hl : lv_has ls 1 [(0, .int (bI ng))] := hl
  refine va_new (ci := 0) (fs := [.int 0, .long 0]) (C := RX1) (T := TX1) (N := 2) hx hb hts in_X1 tyX1 tyX1_ok hown w_1 w_2 w_3 hK vP_nil (vD_nil (A := A)) hS hA rfl (fun j hj => by rcases (show j = 0 ∨ j = 1 by omega) with rfl | rfl <;> rfl) (Nat.le_of_ble_eq_true rfl) (Nat.le_of_ble_eq_true rfl) dX2_zero_0 (fun q_1 H hP4 hD4 hS => ?_)
  have nz_q_1 : s.heap.size ≤ q_1 := nzA _ (hD4.2 0 _ rfl)
  have hx_q_1 : va_P D vwCl [cReal q_1 0 0] H := hP4.sub [0] rfl
  have hd_q_1 : va_D A [cReal q_1 0 0] := hD4.sub [0] (by decide) rfl
  refine lv_dup hx hb dX2_zero_3 rfl ?_
  refine lv_iload_n hx hb dX2_zero_4 rfl (lv_at hl 0 rfl) ?_
  refine vp_callSi (va_cr (va_runS (As := [.int (bI ng)]) (rest := [.ref q_1, .ref q_1]) ⟨hx, hb, hml, hown, hts⟩ (c_X2_signOf l ng) (va_cwS 1 hts gX2_zero_X2_signOf rfl rfl rfl kS_X2_signOf ⟨Nat.le_of_ble_eq_true rfl, Nat.le_of_ble_eq_true rfl⟩) ⟨TB.blind, TB.pre⟩ rfl rfl hl.1 rfl (lv_room (Nat.le_of_ble_eq_true rfl)) dX2_zero_5 ⟨Nat.le_of_ble_eq_true rfl, Nat.le_of_ble_eq_true rfl⟩)) (fun r9 e9 => ?_)
  rw [e9]
  refine lv_lconst (v := 0) hx hb dX2_zero_8 (by decide) ?_
  have hFc := va_free (wc := [cReal q_1 0 0]) hd_q_1 hS hA [0] rfl
  refine va_callv (va_runIN (As := [.int (R_signOf ng), .long 0]) (rest := [.ref q_1]) ⟨hx, hb, hml, hown, hts⟩ (c_X1_init l D q_1 (R_signOf ng) 0 H.size) ⟨va_cnB 2 hts gX2_zero_X1_init_n52 rfl rfl rfl (hE.2.1 _ (List.mem_of_getElem? (i := 7) rfl)) w_3 kS_X1_init ⟨Nat.le_of_ble_eq_true rfl, Nat.le_of_ble_eq_true rfl⟩, rfl, w_5⟩ ⟨INB.blind, INB.pre (hK.sub [] rfl) hx_q_1 hd_q_1⟩ rfl rfl hl.1 rfl (lv_room (Nat.le_of_ble_eq_true rfl)) dX2_zero_9 ⟨Nat.le_of_ble_eq_true rfl, Nat.le_of_ble_eq_true rfl⟩) hS (fun q _ h9 => hFc q h9) hFc (fun u9 t9 H locs ht hvm hw hB hz1 hk1 hS => ?_)
  have hx_q_1 : va_P D vwCl [cReal q_1 (R_signOf ng) 0] H := by rw [← ht]; exact hB
  have hw : R_zero ng = ((R_signOf ng), 0) := rfl
  exact W.aret hx hb hr (Or.inl ⟨_, rfl⟩) (Or.inr ⟨_, rfl⟩) (fun t9 ht hW => ⟨⟨(), q_1, rfl, trivial, ⟨(R_signOf ng), 0, hw, by rw [ht]; exact hx_q_1, nz_q_1⟩⟩, hS.F ht⟩) hS.2.2 dX2_zero_12
def R_infinite (ng : Bool) : Int32 × Int64 :=
  (((R_signOf ng) ||| 32767), (-9223372036854775808))
theorem kS_X2_infinite : yX2_infinite.cls ≠ "java/lang/invoke/MethodHandle" ∧ yX2_infinite.cls ≠ "java/lang/invoke/VarHandle" ∧ (parseMethodDescriptor yX2_infinite.desc).map (fun d => d.parameters.length) = some 1 := by decide +kernel
set_option maxHeartbeats 4000000 in
set_option maxRecDepth 100000 in
theorem c_X2_infinite (l : Launch) (D : va_G) (ad : Nat → Nat) (ng : Bool) (sz : Nat) : Met l yX2_infinite wsX2_infinite ({ frames := 2, cells := 1, slots := 2, locals := 35 } : Room) (va_Pc [.int (bI ng)] (SCB D ad [] sz)) (va_Qr (fun (_ : Unit) => True) (fun _ a t => ∃ (w_t : Int32) (w_f : Int64), R_infinite ng = (w_t, w_f) ∧ va_P D vwCl [cReal a w_t w_f] t.heap ∧ (sz ≤ a)) (va_A [] sz)) 1 2 (va_A [] sz) := by
  refine Met.ofW (cc := cX2_infinite) (maxL := 1) (ret := (some (.object "RealSteps$Real"))) (by decide) rfl ?_
  intro p e s m args below meth c s₁ B hml hv
  obtain ⟨rfl, hsz, hK, hR0, hE⟩ := hv
  have hx := B.exec
  have hb := B.bytes
  have hr := B.returns
  have hts := atoms_spec (ws := wsX2_infinite) B.pre
  have hown : s.vm.findClass RX2 = some m.cls := findClass_of_methodNamed B.named
  have hlocks := B.notSynchronized
  have w_1 := hts (.classLink RX2 48 RX1) (by decide +kernel)
  have w_2 := hts (.instantiable RX1 2) (by decide +kernel)
  have w_3 := hts (.initialized RX1) (by decide +kernel)
  have in_X1 : ∀ w ∈ wsX10, w ∈ wsX2_infinite := by decide +kernel
  have w_5 := hts (.constantLong RX2 182 (-9223372036854775808)) (by decide +kernel)
  have w_6 := hts (.instanceMethod yX1_init) (by decide +kernel)
  subst hsz
  have hRA := rs_A0 hR0
  obtain ⟨A, hAe⟩ : ∃ A, va_A [] s.heap.size = A := ⟨_, rfl⟩
  have nzA : ∀ q : Nat, A q → s.heap.size ≤ q := fun q h => va_A_nil (by rw [hAe]; exact h)
  rw [hAe] at hE hRA ⊢
  have hA : ∀ q : Nat, s.heap.size ≤ q → A q := fun q h => by rw [← hAe]; exact Or.inr h
  have hS : va_S A s.heap s.heap [] := va_S.rf
  have hl := lv_entry ([.int (bI ng)]) (n := 1) (Nat.le_of_ble_eq_true rfl)
  rw [lg_entry_eq]
  generalize (lg_sl ([.int (bI ng)]) ++ List.replicate (1 - (lg_sl ([.int (bI ng)])).length) Slot.unset).toArray = ls at hl ⊢
  have hl : lv_has ls 1 [(0, .int (bI ng))] := hl
  refine va_new (ci := 0) (fs := [.int 0, .long 0]) (C := RX1) (T := TX1) (N := 2) hx hb hts in_X1 tyX1 tyX1_ok hown w_1 w_2 w_3 hK vP_nil (vD_nil (A := A)) hS hA rfl (fun j hj => by rcases (show j = 0 ∨ j = 1 by omega) with rfl | rfl <;> rfl) (Nat.le_of_ble_eq_true rfl) (Nat.le_of_ble_eq_true rfl) dX2_infinite_0 (fun q_1 H hP4 hD4 hS => ?_)
  have nz_q_1 : s.heap.size ≤ q_1 := nzA _ (hD4.2 0 _ rfl)
  have hx_q_1 : va_P D vwCl [cReal q_1 0 0] H := hP4.sub [0] rfl
  have hd_q_1 : va_D A [cReal q_1 0 0] := hD4.sub [0] (by decide) rfl
  refine lv_dup hx hb dX2_infinite_3 rfl ?_
  refine lv_iload_n hx hb dX2_infinite_4 rfl (lv_at hl 0 rfl) ?_
  refine vp_callSi (va_cr (va_runS (As := [.int (bI ng)]) (rest := [.ref q_1, .ref q_1]) ⟨hx, hb, hml, hown, hts⟩ (c_X2_signOf l ng) (va_cwS 1 hts gX2_infinite_X2_signOf rfl rfl rfl kS_X2_signOf ⟨Nat.le_of_ble_eq_true rfl, Nat.le_of_ble_eq_true rfl⟩) ⟨TB.blind, TB.pre⟩ rfl rfl hl.1 rfl (lv_room (Nat.le_of_ble_eq_true rfl)) dX2_infinite_5 ⟨Nat.le_of_ble_eq_true rfl, Nat.le_of_ble_eq_true rfl⟩)) (fun r9 e9 => ?_)
  rw [e9]
  refine lv_sipush (v := 32767) hx hb dX2_infinite_8 (by decide) ?_
  refine lv_ior hx hb dX2_infinite_11 ?_
  refine lv_ldc2 (v := (-9223372036854775808)) hx hb hown w_5 dX2_infinite_12 ?_
  have hFc := va_free (wc := [cReal q_1 0 0]) hd_q_1 hS hA [0] rfl
  refine va_callv (va_runIN (As := [.int ((R_signOf ng) ||| 32767), .long (-9223372036854775808)]) (rest := [.ref q_1]) ⟨hx, hb, hml, hown, hts⟩ (c_X1_init l D q_1 ((R_signOf ng) ||| 32767) (-9223372036854775808) H.size) ⟨va_cnB 2 hts gX2_infinite_X1_init_n52 rfl rfl rfl (hE.2.1 _ (List.mem_of_getElem? (i := 7) rfl)) w_3 kS_X1_init ⟨Nat.le_of_ble_eq_true rfl, Nat.le_of_ble_eq_true rfl⟩, rfl, w_6⟩ ⟨INB.blind, INB.pre (hK.sub [] rfl) hx_q_1 hd_q_1⟩ rfl rfl hl.1 rfl (lv_room (Nat.le_of_ble_eq_true rfl)) dX2_infinite_15 ⟨Nat.le_of_ble_eq_true rfl, Nat.le_of_ble_eq_true rfl⟩) hS (fun q _ h9 => hFc q h9) hFc (fun u9 t9 H locs ht hvm hw hB hz1 hk1 hS => ?_)
  have hx_q_1 : va_P D vwCl [cReal q_1 ((R_signOf ng) ||| 32767) (-9223372036854775808)] H := by rw [← ht]; exact hB
  have hw : R_infinite ng = (((R_signOf ng) ||| 32767), (-9223372036854775808)) := rfl
  exact W.aret hx hb hr (Or.inl ⟨_, rfl⟩) (Or.inr ⟨_, rfl⟩) (fun t9 ht hW => ⟨⟨(), q_1, rfl, trivial, ⟨((R_signOf ng) ||| 32767), (-9223372036854775808), hw, by rw [ht]; exact hx_q_1, nz_q_1⟩⟩, hS.F ht⟩) hS.2.2 dX2_infinite_18
def R_normal (ng : Bool) (ex : Int32) (nm : Int64) : Int32 × Int64 :=
  (((R_signOf ng) ||| (ex + 16383)), nm)
theorem kS_X2_normal : yX2_normal.cls ≠ "java/lang/invoke/MethodHandle" ∧ yX2_normal.cls ≠ "java/lang/invoke/VarHandle" ∧ (parseMethodDescriptor yX2_normal.desc).map (fun d => d.parameters.length) = some 3 := by decide +kernel
set_option maxHeartbeats 4000000 in
set_option maxRecDepth 100000 in
theorem c_X2_normal (l : Launch) (D : va_G) (ad : Nat → Nat) (ng : Bool) (ex : Int32) (nm : Int64) (sz : Nat) : Met l yX2_normal wsX2_normal ({ frames := 2, cells := 1, slots := 2, locals := 35 } : Room) (va_Pc [.int (bI ng), .int ex, .long nm] (SCB D ad [] sz)) (va_Qr (fun (_ : Unit) => True) (fun _ a t => ∃ (w_t : Int32) (w_f : Int64), R_normal ng ex nm = (w_t, w_f) ∧ va_P D vwCl [cReal a w_t w_f] t.heap ∧ (sz ≤ a)) (va_A [] sz)) 1 2 (va_A [] sz) := by
  refine Met.ofW (cc := cX2_normal) (maxL := 4) (ret := (some (.object "RealSteps$Real"))) (by decide) rfl ?_
  intro p e s m args below meth c s₁ B hml hv
  obtain ⟨rfl, hsz, hK, hR0, hE⟩ := hv
  have hx := B.exec
  have hb := B.bytes
  have hr := B.returns
  have hts := atoms_spec (ws := wsX2_normal) B.pre
  have hown : s.vm.findClass RX2 = some m.cls := findClass_of_methodNamed B.named
  have hlocks := B.notSynchronized
  have w_1 := hts (.classLink RX2 48 RX1) (by decide +kernel)
  have w_2 := hts (.instantiable RX1 2) (by decide +kernel)
  have w_3 := hts (.initialized RX1) (by decide +kernel)
  have in_X1 : ∀ w ∈ wsX10, w ∈ wsX2_normal := by decide +kernel
  have w_5 := hts (.instanceMethod yX1_init) (by decide +kernel)
  subst hsz
  have hRA := rs_A0 hR0
  obtain ⟨A, hAe⟩ : ∃ A, va_A [] s.heap.size = A := ⟨_, rfl⟩
  have nzA : ∀ q : Nat, A q → s.heap.size ≤ q := fun q h => va_A_nil (by rw [hAe]; exact h)
  rw [hAe] at hE hRA ⊢
  have hA : ∀ q : Nat, s.heap.size ≤ q → A q := fun q h => by rw [← hAe]; exact Or.inr h
  have hS : va_S A s.heap s.heap [] := va_S.rf
  have hl := lv_entry ([.int (bI ng), .int ex, .long nm]) (n := 4) (Nat.le_of_ble_eq_true rfl)
  rw [lg_entry_eq]
  generalize (lg_sl ([.int (bI ng), .int ex, .long nm]) ++ List.replicate (4 - (lg_sl ([.int (bI ng), .int ex, .long nm])).length) Slot.unset).toArray = ls at hl ⊢
  have hl : lv_has ls 4 [(0, .int (bI ng)), (1, .int ex), (2, .long nm)] := hl
  refine va_new (ci := 0) (fs := [.int 0, .long 0]) (C := RX1) (T := TX1) (N := 2) hx hb hts in_X1 tyX1 tyX1_ok hown w_1 w_2 w_3 hK vP_nil (vD_nil (A := A)) hS hA rfl (fun j hj => by rcases (show j = 0 ∨ j = 1 by omega) with rfl | rfl <;> rfl) (Nat.le_of_ble_eq_true rfl) (Nat.le_of_ble_eq_true rfl) dX2_normal_0 (fun q_1 H hP4 hD4 hS => ?_)
  have nz_q_1 : s.heap.size ≤ q_1 := nzA _ (hD4.2 0 _ rfl)
  have hx_q_1 : va_P D vwCl [cReal q_1 0 0] H := hP4.sub [0] rfl
  have hd_q_1 : va_D A [cReal q_1 0 0] := hD4.sub [0] (by decide) rfl
  refine lv_dup hx hb dX2_normal_3 rfl ?_
  refine lv_iload_n hx hb dX2_normal_4 rfl (lv_at hl 0 rfl) ?_
  refine vp_callSi (va_cr (va_runS (As := [.int (bI ng)]) (rest := [.ref q_1, .ref q_1]) ⟨hx, hb, hml, hown, hts⟩ (c_X2_signOf l ng) (va_cwS 1 hts gX2_normal_X2_signOf rfl rfl rfl kS_X2_signOf ⟨Nat.le_of_ble_eq_true rfl, Nat.le_of_ble_eq_true rfl⟩) ⟨TB.blind, TB.pre⟩ rfl rfl hl.1 rfl (lv_room (Nat.le_of_ble_eq_true rfl)) dX2_normal_5 ⟨Nat.le_of_ble_eq_true rfl, Nat.le_of_ble_eq_true rfl⟩)) (fun r9 e9 => ?_)
  rw [e9]
  refine lv_iload_n hx hb dX2_normal_8 rfl (lv_at hl 1 rfl) ?_
  refine lv_sipush (v := 16383) hx hb dX2_normal_9 (by decide) ?_
  refine lv_iadd hx hb dX2_normal_12 ?_
  refine lv_ior hx hb dX2_normal_13 ?_
  refine lv_lload_n hx hb dX2_normal_14 rfl (lv_at hl 2 rfl) ?_
  have hFc := va_free (wc := [cReal q_1 0 0]) hd_q_1 hS hA [0] rfl
  refine va_callv (va_runIN (As := [.int ((R_signOf ng) ||| (ex + 16383)), .long nm]) (rest := [.ref q_1]) ⟨hx, hb, hml, hown, hts⟩ (c_X1_init l D q_1 ((R_signOf ng) ||| (ex + 16383)) nm H.size) ⟨va_cnB 2 hts gX2_normal_X1_init_n52 rfl rfl rfl (hE.2.1 _ (List.mem_of_getElem? (i := 7) rfl)) w_3 kS_X1_init ⟨Nat.le_of_ble_eq_true rfl, Nat.le_of_ble_eq_true rfl⟩, rfl, w_5⟩ ⟨INB.blind, INB.pre (hK.sub [] rfl) hx_q_1 hd_q_1⟩ rfl rfl hl.1 rfl (lv_room (Nat.le_of_ble_eq_true rfl)) dX2_normal_15 ⟨Nat.le_of_ble_eq_true rfl, Nat.le_of_ble_eq_true rfl⟩) hS (fun q _ h9 => hFc q h9) hFc (fun u9 t9 H locs ht hvm hw hB hz1 hk1 hS => ?_)
  have hx_q_1 : va_P D vwCl [cReal q_1 ((R_signOf ng) ||| (ex + 16383)) nm] H := by rw [← ht]; exact hB
  have hw : R_normal ng ex nm = (((R_signOf ng) ||| (ex + 16383)), nm) := rfl
  exact W.aret hx hb hr (Or.inl ⟨_, rfl⟩) (Or.inr ⟨_, rfl⟩) (fun t9 ht hW => ⟨⟨(), q_1, rfl, trivial, ⟨((R_signOf ng) ||| (ex + 16383)), nm, hw, by rw [ht]; exact hx_q_1, nz_q_1⟩⟩, hS.F ht⟩) hS.2.2 dX2_normal_18
def R_greater (tx : Int32) (fx : Int64) (ty : Int32) (fy : Int64) : Int32 × Int64 :=
  if fx = fy then (if bI (R_neg tx) = 0 then (tx, fx)
    else (ty, fy))
  else if (J_cmpU fx fy) ≤ 0 then (ty, fy)
  else (tx, fx)
theorem kS_X2_greaterNoNumber : yX2_greaterNoNumber.cls ≠ "java/lang/invoke/MethodHandle" ∧ yX2_greaterNoNumber.cls ≠ "java/lang/invoke/VarHandle" ∧ (parseMethodDescriptor yX2_greaterNoNumber.desc).map (fun d => d.parameters.length) = some 2 := by decide +kernel
set_option maxHeartbeats 4000000 in
set_option maxRecDepth 100000 in
theorem c_X2_greaterNoNumber (l : Launch) (D : va_G) (ad : Nat → Nat) (x : Nat) (tx : Int32) (fx : Int64) (y : Nat) (ty : Int32) (fy : Int64) (sz : Nat) : Met l yX2_greaterNoNumber wsX2_greaterNoNumber ({ frames := 2, cells := 0, slots := 0, locals := 46 } : Room) (va_Pc [.ref x, .ref y] (SCB D ad [cReal x tx fx, cReal y ty fy] sz)) (va_Qr (fun (_ : Unit) => True) (fun _ a t => ∃ (w_t : Int32) (w_f : Int64), R_greater tx fx ty fy = (w_t, w_f) ∧ va_P D vwCl [cReal a w_t w_f] t.heap ∧ (a = x ∨ a = y ∨ sz ≤ a)) (va_A [] sz)) 0 0 (va_A [] sz) := by
  refine Met.ofW (cc := cX2_greaterNoNumber) (maxL := 2) (ret := (some (.object "RealSteps$Real"))) (by decide) rfl ?_
  intro p e s m args below meth c s₁ B hml hv
  obtain ⟨rfl, hsz, hK, hR0, hE⟩ := hv
  have hx := B.exec
  have hb := B.bytes
  have hr := B.returns
  have hts := atoms_spec (ws := wsX2_greaterNoNumber) B.pre
  have hown : s.vm.findClass RX2 = some m.cls := findClass_of_methodNamed B.named
  have hlocks := B.notSynchronized
  have in_X1 : ∀ w ∈ wsX10, w ∈ wsX2_greaterNoNumber := by decide +kernel
  have w_2 := hts (.initialized RX1) (by decide +kernel)
  have w_3 := hts (.instanceMethod yX1_isNegative) (by decide +kernel)
  have w_4 := hts (.selects RX1 yX1_isNegative yX1_isNegative) (by decide +kernel)
  subst hsz
  have hRA := rs_A0 hR0
  obtain ⟨A, hAe⟩ : ∃ A, va_A [] s.heap.size = A := ⟨_, rfl⟩
  have nzA : ∀ q : Nat, A q → s.heap.size ≤ q := fun q h => va_A_nil (by rw [hAe]; exact h)
  rw [hAe] at hE hRA ⊢
  have hA : ∀ q : Nat, s.heap.size ≤ q → A q := fun q h => by rw [← hAe]; exact Or.inr h
  have hS : va_S A s.heap s.heap [] := va_S.rf
  have hl := lv_entry ([.ref x, .ref y]) (n := 2) (Nat.le_of_ble_eq_true rfl)
  rw [lg_entry_eq]
  generalize (lg_sl ([.ref x, .ref y]) ++ List.replicate (2 - (lg_sl ([.ref x, .ref y])).length) Slot.unset).toArray = ls at hl ⊢
  have hl : lv_has ls 2 [(0, .ref x), (1, .ref y)] := hl
  refine lv_aload_n hx hb dX2_greaterNoNumber_0 rfl (lv_at hl 0 rfl) ?_
  refine va_getN (v := .long fx) (C := RX1) (T := TX1) (N := 2) hx hb hts in_X1 hown hK (ro_now hR0 hRA hS) 0 rfl rfl 1 (by decide) (va_Nw.use rfl (hE.2.1 (.fieldLinkNest RX2 150 "RealSteps$Real" "fraction" "J" RX2) (by decide))) (fun _ h9 => h9) rfl dX2_greaterNoNumber_1 ?_
  refine lv_aload_n hx hb dX2_greaterNoNumber_4 rfl (lv_at hl 1 rfl) ?_
  refine va_getN (v := .long fy) (C := RX1) (T := TX1) (N := 2) hx hb hts in_X1 hown hK (ro_now hR0 hRA hS) 1 rfl rfl 1 (by decide) (va_Nw.use rfl (hE.2.1 (.fieldLinkNest RX2 150 "RealSteps$Real" "fraction" "J" RX2) (by decide))) (fun _ h9 => h9) rfl dX2_greaterNoNumber_5 ?_
  refine q_cl_ne (tgt := 25) hx hb dX2_greaterNoNumber_8 dX2_greaterNoNumber_9 (by decide) (fun c_1 => ?_) (fun c_1 => ?_)
  · refine lv_aload_n hx hb dX2_greaterNoNumber_25 rfl (lv_at hl 0 rfl) ?_
    refine va_getN (v := .long fx) (C := RX1) (T := TX1) (N := 2) hx hb hts in_X1 hown hK (ro_now hR0 hRA hS) 0 rfl rfl 1 (by decide) (va_Nw.use rfl (hE.2.1 (.fieldLinkNest RX2 150 "RealSteps$Real" "fraction" "J" RX2) (by decide))) (fun _ h9 => h9) rfl dX2_greaterNoNumber_26 ?_
    refine lv_aload_n hx hb dX2_greaterNoNumber_29 rfl (lv_at hl 1 rfl) ?_
    refine va_getN (v := .long fy) (C := RX1) (T := TX1) (N := 2) hx hb hts in_X1 hown hK (ro_now hR0 hRA hS) 1 rfl rfl 1 (by decide) (va_Nw.use rfl (hE.2.1 (.fieldLinkNest RX2 150 "RealSteps$Real" "fraction" "J" RX2) (by decide))) (fun _ h9 => h9) rfl dX2_greaterNoNumber_30 ?_
    refine vp_callSi (va_cr (va_runS (As := [.long fx, .long fy]) (rest := []) ⟨hx, hb, hml, hown, hts⟩ (c_J13_compareUnsigned_74951 l fx fy) (va_cwS 2 hts gX2_greaterNoNumber_J13_compareUnsigned_74951 rfl rfl rfl kS_J13_compareUnsigned_74951 ⟨Nat.le_of_ble_eq_true rfl, Nat.le_of_ble_eq_true rfl⟩) ⟨TB.blind, TB.pre⟩ rfl rfl hl.1 rfl (lv_room (Nat.le_of_ble_eq_true rfl)) dX2_greaterNoNumber_33 ⟨Nat.le_of_ble_eq_true rfl, Nat.le_of_ble_eq_true rfl⟩)) (fun r9 e9 => ?_)
    rw [e9]
    refine lv_if_le (tgt := 43) hx hb dX2_greaterNoNumber_36 (by decide) (fun c_2 => ?_) (fun c_2 => ?_)
    · refine lv_aload_n hx hb dX2_greaterNoNumber_43 rfl (lv_at hl 1 rfl) ?_
      have hw : R_greater tx fx ty fy = (ty, fy) := by unfold R_greater; rw [if_neg c_1, if_pos c_2]; try rfl
      exact W.aret hx hb hr (Or.inl ⟨_, rfl⟩) (Or.inr ⟨_, rfl⟩) (fun t9 ht hW => ⟨⟨(), y, rfl, trivial, ⟨ty, fy, hw, by rw [ht]; exact ((ro_now hR0 hRA hS).sub [1] rfl), (Or.inr (Or.inl rfl))⟩⟩, hS.F ht⟩) hS.2.2 dX2_greaterNoNumber_44
    · refine lv_aload_n hx hb dX2_greaterNoNumber_39 rfl (lv_at hl 0 rfl) ?_
      refine lv_goto (tgt := 44) hx hb dX2_greaterNoNumber_40 (by decide) ?_
      have hw : R_greater tx fx ty fy = (tx, fx) := by unfold R_greater; rw [if_neg c_1, if_neg c_2]; try rfl
      exact W.aret hx hb hr (Or.inl ⟨_, rfl⟩) (Or.inr ⟨_, rfl⟩) (fun t9 ht hW => ⟨⟨(), x, rfl, trivial, ⟨tx, fx, hw, by rw [ht]; exact ((ro_now hR0 hRA hS).sub [0] rfl), (Or.inl rfl)⟩⟩, hS.F ht⟩) hS.2.2 dX2_greaterNoNumber_44
  · refine lv_aload_n hx hb dX2_greaterNoNumber_12 rfl (lv_at hl 0 rfl) ?_
    refine vp_callSi (va_cr (va_runVN (As := []) (rest := []) ⟨hx, hb, hml, hown, hts⟩ (c_X1_isNegative l D ad x tx fx) ⟨va_cnB 0 hts gX2_greaterNoNumber_X1_isNegative_n137 rfl rfl rfl (hE.2.1 _ (List.mem_of_getElem? (i := 2) rfl)) w_2 kS_X1_isNegative ⟨Nat.le_of_ble_eq_true rfl, Nat.le_of_ble_eq_true rfl⟩, w_3, w_4⟩ ⟨EB.blind, va_recv hK (ro_now hR0 hRA hS) (ci := 0) (q0 := 0) rfl rfl, EB.pre (hK.sub [] rfl) ((ro_now hR0 hRA hS).sub [0] rfl) hE hS⟩ rfl rfl hl.1 rfl (lv_room (Nat.le_of_ble_eq_true rfl)) dX2_greaterNoNumber_13 ⟨Nat.le_of_ble_eq_true rfl, Nat.le_of_ble_eq_true rfl⟩)) (fun r9 e9 => ?_)
    rw [e9]
    refine lv_if_eq (tgt := 23) hx hb dX2_greaterNoNumber_16 (by decide) (fun c_3 => ?_) (fun c_3 => ?_)
    · refine lv_aload_n hx hb dX2_greaterNoNumber_23 rfl (lv_at hl 0 rfl) ?_
      have hw : R_greater tx fx ty fy = (tx, fx) := by unfold R_greater; rw [if_pos c_1, if_pos c_3]; try rfl
      exact W.aret hx hb hr (Or.inl ⟨_, rfl⟩) (Or.inr ⟨_, rfl⟩) (fun t9 ht hW => ⟨⟨(), x, rfl, trivial, ⟨tx, fx, hw, by rw [ht]; exact ((ro_now hR0 hRA hS).sub [0] rfl), (Or.inl rfl)⟩⟩, hS.F ht⟩) hS.2.2 dX2_greaterNoNumber_24
    · refine lv_aload_n hx hb dX2_greaterNoNumber_19 rfl (lv_at hl 1 rfl) ?_
      refine lv_goto (tgt := 24) hx hb dX2_greaterNoNumber_20 (by decide) ?_
      have hw : R_greater tx fx ty fy = (ty, fy) := by unfold R_greater; rw [if_pos c_1, if_neg c_3]; try rfl
      exact W.aret hx hb hr (Or.inl ⟨_, rfl⟩) (Or.inr ⟨_, rfl⟩) (fun t9 ht hW => ⟨⟨(), y, rfl, trivial, ⟨ty, fy, hw, by rw [ht]; exact ((ro_now hR0 hRA hS).sub [1] rfl), (Or.inr (Or.inl rfl))⟩⟩, hS.F ht⟩) hS.2.2 dX2_greaterNoNumber_24
def R_subst (tx : Int32) (fx : Int64) (ty : Int32) (fy : Int64) : Int32 × Int64 :=
  if bI (R_isOf tx fx 5) = 0 then (if bI (R_isOf ty fy 5) = 0 then (65535, (-4611686018427387904))
    else (ty, fy))
  else if bI (R_isOf ty fy 5) = 0 then (tx, fx)
  else (tup2 ((R_greater tx fx ty fy)) (fun vt_8 vf_9 =>
      (vt_8, vf_9)))
theorem kS_X2_substitute : yX2_substitute.cls ≠ "java/lang/invoke/MethodHandle" ∧ yX2_substitute.cls ≠ "java/lang/invoke/VarHandle" ∧ (parseMethodDescriptor yX2_substitute.desc).map (fun d => d.parameters.length) = some 2 := by decide +kernel
set_option maxHeartbeats 4000000 in
set_option maxRecDepth 100000 in
theorem c_X2_substitute (l : Launch) (D : va_G) (ad : Nat → Nat) (x : Nat) (tx : Int32) (fx : Int64) (y : Nat) (ty : Int32) (fy : Int64) (sz : Nat) : Met l yX2_substitute wsX2_substitute ({ frames := 3, cells := 1, slots := 2, locals := 67 } : Room) (va_Pc [.ref x, .ref y] (SCB D ad [cReal x tx fx, cReal y ty fy] sz)) (va_Qr (fun (_ : Unit) => True) (fun _ a t => ∃ (w_t : Int32) (w_f : Int64), R_subst tx fx ty fy = (w_t, w_f) ∧ va_P D vwCl [cReal a w_t w_f] t.heap ∧ (a = x ∨ a = y ∨ sz ≤ a)) (va_A [] sz)) 1 2 (va_A [] sz) := by
  refine Met.ofW (cc := cX2_substitute) (maxL := 4) (ret := (some (.object "RealSteps$Real"))) (by decide) rfl ?_
  intro p e s m args below meth c s₁ B hml hv
  obtain ⟨rfl, hsz, hK, hR0, hE⟩ := hv
  have hx := B.exec
  have hb := B.bytes
  have hr := B.returns
  have hts := atoms_spec (ws := wsX2_substitute) B.pre
  have hown : s.vm.findClass RX2 = some m.cls := findClass_of_methodNamed B.named
  have hlocks := B.notSynchronized
  have w_1 := hts (.fieldLink RX2 154 "RealSteps$Kind" "NO_NUMBER" "LRealSteps$Kind;") (by decide +kernel)
  have w_2 := hts (.initialized RX1) (by decide +kernel)
  have w_3 := hts (.instanceMethod yX1_isOf) (by decide +kernel)
  have w_4 := hts (.selects RX1 yX1_isOf yX1_isOf) (by decide +kernel)
  have w_5 := hts (.classLink RX2 48 RX1) (by decide +kernel)
  have w_6 := hts (.instantiable RX1 2) (by decide +kernel)
  have in_X1 : ∀ w ∈ wsX10, w ∈ wsX2_substitute := by decide +kernel
  have w_8 := hts (.constant RX2 34 (65535)) (by decide +kernel)
  have w_9 := hts (.constantLong RX2 170 (-4611686018427387904)) (by decide +kernel)
  have w_10 := hts (.instanceMethod yX1_init) (by decide +kernel)
  subst hsz
  have hRA := rs_A0 hR0
  obtain ⟨A, hAe⟩ : ∃ A, va_A [] s.heap.size = A := ⟨_, rfl⟩
  have nzA : ∀ q : Nat, A q → s.heap.size ≤ q := fun q h => va_A_nil (by rw [hAe]; exact h)
  rw [hAe] at hE hRA ⊢
  have hA : ∀ q : Nat, s.heap.size ≤ q → A q := fun q h => by rw [← hAe]; exact Or.inr h
  have hS : va_S A s.heap s.heap [] := va_S.rf
  have hl := lv_entry ([.ref x, .ref y]) (n := 4) (Nat.le_of_ble_eq_true rfl)
  rw [lg_entry_eq]
  generalize (lg_sl ([.ref x, .ref y]) ++ List.replicate (4 - (lg_sl ([.ref x, .ref y])).length) Slot.unset).toArray = ls at hl ⊢
  have hl : lv_has ls 4 [(0, .ref x), (1, .ref y)] := hl
  refine lv_aload_n hx hb dX2_substitute_0 rfl (lv_at hl 0 rfl) ?_
  refine va_gets (v := .ref (ad 5)) hx hb (hE.1.1 5 (by decide)).1 hS hown w_1 (fun _ h9 => h9) dX2_substitute_1 ?_
  refine vp_callSi (va_cr (va_runVN (As := [.ref (ad 5)]) (rest := []) ⟨hx, hb, hml, hown, hts⟩ (c_X1_isOf l D ad x tx fx 5 (by decide)) ⟨va_cnB 1 hts gX2_substitute_X1_isOf_n112 rfl rfl rfl (hE.2.1 _ (List.mem_of_getElem? (i := 0) rfl)) w_2 kS_X1_isOf ⟨Nat.le_of_ble_eq_true rfl, Nat.le_of_ble_eq_true rfl⟩, w_3, w_4⟩ ⟨EB.blind, va_recv hK (ro_now hR0 hRA hS) (ci := 0) (q0 := 0) rfl rfl, EB.pre (hK.sub [] rfl) ((ro_now hR0 hRA hS).sub [0] rfl) hE hS⟩ rfl rfl hl.1 rfl (lv_room (Nat.le_of_ble_eq_true rfl)) dX2_substitute_4 ⟨Nat.le_of_ble_eq_true rfl, Nat.le_of_ble_eq_true rfl⟩)) (fun r9 e9 => ?_)
  rw [e9]
  refine lv_istore_n (lv' := [(2, .int (bI (R_isOf tx fx 5))), (0, .ref x), (1, .ref y)]) hx hb dX2_substitute_7 rfl hl (by decide) rfl (fun ls hl => ?_)
  refine lv_aload_n hx hb dX2_substitute_8 rfl (lv_at hl 2 rfl) ?_
  refine va_gets (v := .ref (ad 5)) hx hb (hE.1.1 5 (by decide)).1 hS hown w_1 (fun _ h9 => h9) dX2_substitute_9 ?_
  refine vp_callSi (va_cr (va_runVN (As := [.ref (ad 5)]) (rest := []) ⟨hx, hb, hml, hown, hts⟩ (c_X1_isOf l D ad y ty fy 5 (by decide)) ⟨va_cnB 1 hts gX2_substitute_X1_isOf_n112 rfl rfl rfl (hE.2.1 _ (List.mem_of_getElem? (i := 0) rfl)) w_2 kS_X1_isOf ⟨Nat.le_of_ble_eq_true rfl, Nat.le_of_ble_eq_true rfl⟩, w_3, w_4⟩ ⟨EB.blind, va_recv hK (ro_now hR0 hRA hS) (ci := 0) (q0 := 1) rfl rfl, EB.pre (hK.sub [] rfl) ((ro_now hR0 hRA hS).sub [1] rfl) hE hS⟩ rfl rfl hl.1 rfl (lv_room (Nat.le_of_ble_eq_true rfl)) dX2_substitute_12 ⟨Nat.le_of_ble_eq_true rfl, Nat.le_of_ble_eq_true rfl⟩)) (fun r9 e9 => ?_)
  rw [e9]
  refine lv_istore_n (lv' := [(3, .int (bI (R_isOf ty fy 5))), (2, .int (bI (R_isOf tx fx 5))), (0, .ref x), (1, .ref y)]) hx hb dX2_substitute_15 rfl hl (by decide) rfl (fun ls hl => ?_)
  refine lv_iload_n hx hb dX2_substitute_16 rfl (lv_at hl 1 rfl) ?_
  refine lv_if_eq (tgt := 30) hx hb dX2_substitute_17 (by decide) (fun c_1 => ?_) (fun c_1 => ?_)
  · refine lv_iload_n hx hb dX2_substitute_30 rfl (lv_at hl 1 rfl) ?_
    refine lv_if_eq (tgt := 36) hx hb dX2_substitute_31 (by decide) (fun c_2 => ?_) (fun c_2 => ?_)
    · refine lv_iload_n hx hb dX2_substitute_36 rfl (lv_at hl 0 rfl) ?_
      refine lv_if_eq (tgt := 44) hx hb dX2_substitute_37 (by decide) (fun c_3 => ?_) (fun c_3 => ?_)
      · refine va_new (ci := 0) (fs := [.int 0, .long 0]) (C := RX1) (T := TX1) (N := 2) hx hb hts in_X1 tyX1 tyX1_ok hown w_5 w_6 w_2 hK vP_nil (vD_nil (A := A)) hS hA rfl (fun j hj => by rcases (show j = 0 ∨ j = 1 by omega) with rfl | rfl <;> rfl) (Nat.le_of_ble_eq_true rfl) (Nat.le_of_ble_eq_true rfl) dX2_substitute_44 (fun q_4 H hP4 hD4 hS => ?_)
        have nz_q_4 : s.heap.size ≤ q_4 := nzA _ (hD4.2 0 _ rfl)
        have hx_q_4 : va_P D vwCl [cReal q_4 0 0] H := hP4.sub [0] rfl
        have hd_q_4 : va_D A [cReal q_4 0 0] := hD4.sub [0] (by decide) rfl
        refine lv_dup hx hb dX2_substitute_47 rfl ?_
        refine lv_ldc (v := 65535) hx hb hown w_8 dX2_substitute_48 ?_
        refine lv_ldc2 (v := (-4611686018427387904)) hx hb hown w_9 dX2_substitute_50 ?_
        have hFc := va_free (wc := [cReal q_4 0 0]) hd_q_4 hS hA [0] rfl
        refine va_callv (va_runIN (As := [.int 65535, .long (-4611686018427387904)]) (rest := [.ref q_4]) ⟨hx, hb, hml, hown, hts⟩ (c_X1_init l D q_4 65535 (-4611686018427387904) H.size) ⟨va_cnB 2 hts gX2_substitute_X1_init_n52 rfl rfl rfl (hE.2.1 _ (List.mem_of_getElem? (i := 7) rfl)) w_2 kS_X1_init ⟨Nat.le_of_ble_eq_true rfl, Nat.le_of_ble_eq_true rfl⟩, rfl, w_10⟩ ⟨INB.blind, INB.pre (hK.sub [] rfl) hx_q_4 hd_q_4⟩ rfl rfl hl.1 rfl (lv_room (Nat.le_of_ble_eq_true rfl)) dX2_substitute_53 ⟨Nat.le_of_ble_eq_true rfl, Nat.le_of_ble_eq_true rfl⟩) hS (fun q _ h9 => hFc q h9) hFc (fun u9 t9 H locs ht hvm hw hB hz1 hk1 hS => ?_)
        have hx_q_4 : va_P D vwCl [cReal q_4 65535 (-4611686018427387904)] H := by rw [← ht]; exact hB
        have hw : R_subst tx fx ty fy = (65535, (-4611686018427387904)) := by unfold R_subst; rw [if_pos c_1, if_pos c_3]; try rfl
        exact W.aret hx hb hr (Or.inl ⟨_, rfl⟩) (Or.inr ⟨_, rfl⟩) (fun t9 ht hW => ⟨⟨(), q_4, rfl, trivial, ⟨65535, (-4611686018427387904), hw, by rw [ht]; exact hx_q_4, (Or.inr (Or.inr (nz_q_4)))⟩⟩, hS.F ht⟩) hS.2.2 dX2_substitute_56
      · refine lv_aload_n hx hb dX2_substitute_40 rfl (lv_at hl 3 rfl) ?_
        refine lv_goto (tgt := 56) hx hb dX2_substitute_41 (by decide) ?_
        refine W.widen (k := 1) (n := 2) (Nat.le_of_ble_eq_true rfl) (Nat.le_of_ble_eq_true rfl) ?_
        have hw : R_subst tx fx ty fy = (ty, fy) := by unfold R_subst; rw [if_pos c_1, if_neg c_3]; try rfl
        exact W.aret hx hb hr (Or.inl ⟨_, rfl⟩) (Or.inr ⟨_, rfl⟩) (fun t9 ht hW => ⟨⟨(), y, rfl, trivial, ⟨ty, fy, hw, by rw [ht]; exact ((ro_now hR0 hRA hS).sub [1] rfl), (Or.inr (Or.inl rfl))⟩⟩, hS.F ht⟩) hS.2.2 dX2_substitute_56
    · exact absurd c_1 c_2
  · refine lv_iload_n hx hb dX2_substitute_20 rfl (lv_at hl 0 rfl) ?_
    refine lv_if_eq (tgt := 30) hx hb dX2_substitute_21 (by decide) (fun c_5 => ?_) (fun c_5 => ?_)
    · refine lv_iload_n hx hb dX2_substitute_30 rfl (lv_at hl 1 rfl) ?_
      refine lv_if_eq (tgt := 36) hx hb dX2_substitute_31 (by decide) (fun c_6 => ?_) (fun c_6 => ?_)
      · exact absurd c_6 c_1
      · refine lv_aload_n hx hb dX2_substitute_34 rfl (lv_at hl 2 rfl) ?_
        refine W.widen (k := 1) (n := 2) (Nat.le_of_ble_eq_true rfl) (Nat.le_of_ble_eq_true rfl) ?_
        have hw : R_subst tx fx ty fy = (tx, fx) := by unfold R_subst; rw [if_neg c_1, if_pos c_5]; try rfl
        exact W.aret hx hb hr (Or.inl ⟨_, rfl⟩) (Or.inr ⟨_, rfl⟩) (fun t9 ht hW => ⟨⟨(), x, rfl, trivial, ⟨tx, fx, hw, by rw [ht]; exact ((ro_now hR0 hRA hS).sub [0] rfl), (Or.inl rfl)⟩⟩, hS.F ht⟩) hS.2.2 dX2_substitute_35
    · refine lv_aload_n hx hb dX2_substitute_24 rfl (lv_at hl 2 rfl) ?_
      refine lv_aload_n hx hb dX2_substitute_25 rfl (lv_at hl 3 rfl) ?_
      have hFc : ∀ q, va_A [] s.heap.size q → A q := va_free (wc := []) (vD_nil (A := A)) hS hA [] rfl
      refine va_callr (va_runS (As := [.ref x, .ref y]) (rest := []) ⟨hx, hb, hml, hown, hts⟩ (c_X2_greaterNoNumber l D ad x tx fx y ty fy s.heap.size) (va_cwS 2 hts gX2_substitute_X2_greaterNoNumber rfl rfl rfl kS_X2_greaterNoNumber ⟨Nat.le_of_ble_eq_true rfl, Nat.le_of_ble_eq_true rfl⟩) ⟨SCB.blind, SCB.pre hK (vP_one ((ro_now hR0 hRA hS).sub [0] rfl) (vP_one ((ro_now hR0 hRA hS).sub [1] rfl) vP_nil)) hE hS hFc⟩ rfl rfl hl.1 rfl (lv_room (Nat.le_of_ble_eq_true rfl)) dX2_substitute_26 ⟨Nat.le_of_ble_eq_true rfl, Nat.le_of_ble_eq_true rfl⟩) hS (fun q _ h9 => hFc q h9) hFc (fun u9 y_7 t9 H locs ht hvm hw hB hz1 hk1 hS => ?_)
      obtain ⟨vt_8, vf_9, e_10, hx_y_7, nz_y_7⟩ := hB
      rw [ht] at hx_y_7
      refine W.widen (k := 1) (n := 2) (Nat.le_of_ble_eq_true rfl) (Nat.le_of_ble_eq_true rfl) ?_
      have hw : R_subst tx fx ty fy = (vt_8, vf_9) := by unfold R_subst; rw [if_neg c_1, if_neg c_5, tup2_e e_10]; try rfl
      exact W.aret hx hb hr (Or.inl ⟨_, rfl⟩) (Or.inr ⟨_, rfl⟩) (fun t9 ht hW => ⟨⟨(), y_7, rfl, trivial, ⟨vt_8, vf_9, hw, by rw [ht]; exact hx_y_7, nz_y_7⟩⟩, hS.F ht⟩) hS.2.2 dX2_substitute_29
