def M_control (ct : Int32) (wd : Int32) : Int32 × Int32 :=
  if bI (if wd < 0 then true else (if wd ≤ 65535 then false else true)) = 0 then (bI (if wd < 0 then true else (if wd ≤ 65535 then false else true)), wd)
  else (bI (if wd < 0 then true else (if wd ≤ 65535 then false else true)), ct)
theorem kS_X3_control : yX3_control.cls ≠ "java/lang/invoke/MethodHandle" ∧ yX3_control.cls ≠ "java/lang/invoke/VarHandle" ∧ (parseMethodDescriptor yX3_control.desc).map (fun d => d.parameters.length) = some 1 := by decide +kernel
theorem kV_X3_control : yX3_control.cls = RX3 ∧ yX3_control.cls ≠ "java/lang/invoke/MethodHandle" ∧ yX3_control.cls ≠ "java/lang/invoke/VarHandle" ∧ (parseMethodDescriptor yX3_control.desc).map (fun d => d.parameters.length) = some 1 := ⟨rfl, kS_X3_control⟩
set_option maxHeartbeats 4000000 in
set_option maxRecDepth 100000 in
theorem c_X3_control (l : Launch) (D : va_G) (h : Nat) (q1 : Nat) (q2 : Nat) (cA : ClassId) (cB : ClassId) (cd : Int32) (ct : Int32) (tf : Nat → Int32) (ff : Nat → Int64) (td : Int32) (an : Bool) (qb : Int32) (pa : Bool) (aT : Int32) (aF : Int64) (dg : Int64) (fi : Int32) (lo : Bool) (wd : Int32) (sz : Nat) : Met l yX3_control wsX3_control ({ frames := 0, cells := 0, slots := 0, locals := 0 } : Room) (va_Pc [.ref h, .int wd] (MMB D (tRS cA cB) (cMd h q1 q2 cA cB cd ct tf ff td an qb pa aT aF dg fi lo) sz)) (va_Qv (fun (_ : Unit) => True) (fun _ t => ∃ (w_cd : Int32) (w_ct : Int32), M_control ct wd = (w_cd, w_ct) ∧ va_P D vwCl (cMd h q1 q2 cA cB w_cd w_ct tf ff td an qb pa aT aF dg fi lo) t.heap ∧ va_D (va_A (cMd h q1 q2 cA cB cd ct tf ff td an qb pa aT aF dg fi lo) sz) (cMd h q1 q2 cA cB w_cd w_ct tf ff td an qb pa aT aF dg fi lo)) (va_A (cMd h q1 q2 cA cB cd ct tf ff td an qb pa aT aF dg fi lo) sz)) 0 0 (va_A (cMd h q1 q2 cA cB cd ct tf ff td an qb pa aT aF dg fi lo) sz) := by
  refine Met.ofW (cc := cX3_control) (maxL := 2) (ret := none) (by decide) rfl ?_
  intro p e s m args below meth c s₁ B hml hv
  obtain ⟨rfl, hsz, hP, hK, hD0⟩ := hv
  have hx := B.exec
  have hb := B.bytes
  have hr := B.returns
  have hts := atoms_spec (ws := wsX3_control) B.pre
  have hown : s.vm.findClass RX3 = some m.cls := findClass_of_methodNamed B.named
  have hlocks := B.notSynchronized
  have w_1 := hts (.constant RX3 24 (65535)) (by decide +kernel)
  have w_2 := hts (.fieldLink RX3 21 "RealStepsModel" "code" "I") (by decide +kernel)
  have in_X3 : ∀ w ∈ wsX30, w ∈ wsX3_control := by decide +kernel
  have w_4 := hts (.fieldLink RX3 7 "RealStepsModel" "control" "I") (by decide +kernel)
  subst hsz
  have hD := hD0.self (sz := s.heap.size)
  generalize hAe : va_A (cMd h q1 q2 cA cB cd ct tf ff td an qb pa aT aF dg fi lo) s.heap.size = A at hD ⊢
  have hA : ∀ q : Nat, s.heap.size ≤ q → A q := fun q h => by rw [← hAe]; exact Or.inr h
  have hS : va_S A s.heap s.heap [] := va_S.rf
  have hP : va_P D vwCl (cMd h q1 q2 cA cB cd ct tf ff td an qb pa aT aF dg fi lo) s.heap := hP
  have hl := lv_entry ([.ref h, .int wd]) (n := 2) (Nat.le_of_ble_eq_true rfl)
  rw [lg_entry_eq]
  generalize (lg_sl ([.ref h, .int wd]) ++ List.replicate (2 - (lg_sl ([.ref h, .int wd])).length) Slot.unset).toArray = ls at hl ⊢
  have hl : lv_has ls 2 [(0, .ref h), (1, .int wd)] := hl
  refine lv_aload_n hx hb dX3_control_0 rfl (lv_at hl 0 rfl) ?_
  refine lv_iload_n hx hb dX3_control_1 rfl (lv_at hl 1 rfl) ?_
  refine q_cut (v := bI (if wd < 0 then true else (if wd ≤ 65535 then false else true))) (pcJ := 16) (rest := [.ref h]) (fun J => ?_) ?_
  · refine lv_if_lt (tgt := 11) hx hb dX3_control_2 (by decide) (fun c_1 => ?_) (fun c_1 => ?_)
    · refine lv_iconst (v := 1) hx hb dX3_control_11 (by decide) ?_
      refine lv_goto (tgt := 16) hx hb dX3_control_12 (by decide) ?_
      exact J _ (by rw [if_pos c_1]; try rfl)
    · refine lv_iload_n hx hb dX3_control_5 rfl (lv_at hl 1 rfl) ?_
      refine lv_ldc (v := 65535) hx hb hown w_1 dX3_control_6 ?_
      refine lv_icmp_le (tgt := 15) hx hb dX3_control_8 (by decide) (fun c_2 => ?_) (fun c_2 => ?_)
      · refine lv_iconst (v := 0) hx hb dX3_control_15 (by decide) ?_
        exact J _ (by rw [if_neg c_1, if_pos c_2]; try rfl)
      · refine lv_iconst (v := 1) hx hb dX3_control_11 (by decide) ?_
        refine lv_goto (tgt := 16) hx hb dX3_control_12 (by decide) ?_
        exact J _ (by rw [if_neg c_1, if_neg c_2]; try rfl)
  refine va_put (v := .int (bI (if wd < 0 then true else (if wd ≤ 65535 then false else true)))) (ty := .int) (C := RX3) (T := TX3) (N := 13) hx hb hts in_X3 tyX3 tyX3_ok nmX3 hown hK hP hD hS 0 rfl rfl 0 (by decide) w_2 (fun _ h9 => h9) rfl (tyX3_ok 0 (by decide)) rfl rfl (Nat.le_of_ble_eq_true rfl) dX3_control_16 (fun H locs hP hD hS => ?_)
  have hP : va_P D vwCl (cMd h q1 q2 cA cB (bI (if wd < 0 then true else (if wd ≤ 65535 then false else true))) ct tf ff td an qb pa aT aF dg fi lo) H := hP
  have hD : va_D A (cMd h q1 q2 cA cB (bI (if wd < 0 then true else (if wd ≤ 65535 then false else true))) ct tf ff td an qb pa aT aF dg fi lo) := hD
  refine lv_aload_n hx hb dX3_control_19 rfl (lv_at hl 0 rfl) ?_
  refine va_get (v := .int (bI (if wd < 0 then true else (if wd ≤ 65535 then false else true)))) (C := RX3) (T := TX3) (N := 13) hx hb hts in_X3 hown hK hP 0 rfl rfl 0 (by decide) w_2 (fun _ h9 => h9) rfl dX3_control_20 ?_
  refine lv_if_ne (tgt := 31) hx hb dX3_control_23 (by decide) (fun c_3 => ?_) (fun c_3 => ?_)
  · have hw : M_control ct wd = (bI (if wd < 0 then true else (if wd ≤ 65535 then false else true)), ct) := by unfold M_control; rw [if_neg c_3]; try rfl
    exact W.vret hx hb hr (fun t9 ht hW => ⟨⟨(), rfl, trivial, ⟨bI (if wd < 0 then true else (if wd ≤ 65535 then false else true)), ct, hw, by rw [ht]; exact hP, hD⟩⟩, hS.F ht⟩) hS.2.2 dX3_control_31
  · refine lv_aload_n hx hb dX3_control_26 rfl (lv_at hl 0 rfl) ?_
    refine lv_iload_n hx hb dX3_control_27 rfl (lv_at hl 1 rfl) ?_
    refine va_put (v := .int wd) (ty := .int) (C := RX3) (T := TX3) (N := 13) hx hb hts in_X3 tyX3 tyX3_ok nmX3 hown hK hP hD hS 0 rfl rfl 1 (by decide) w_4 (fun _ h9 => h9) rfl (tyX3_ok 1 (by decide)) rfl rfl (Nat.le_of_ble_eq_true rfl) dX3_control_28 (fun H locs hP hD hS => ?_)
    have hP : va_P D vwCl (cMd h q1 q2 cA cB (bI (if wd < 0 then true else (if wd ≤ 65535 then false else true))) wd tf ff td an qb pa aT aF dg fi lo) H := hP
    have hD : va_D A (cMd h q1 q2 cA cB (bI (if wd < 0 then true else (if wd ≤ 65535 then false else true))) wd tf ff td an qb pa aT aF dg fi lo) := hD
    have hw : M_control ct wd = (bI (if wd < 0 then true else (if wd ≤ 65535 then false else true)), wd) := by unfold M_control; rw [if_pos c_3]; try rfl
    exact W.vret hx hb hr (fun t9 ht hW => ⟨⟨(), rfl, trivial, ⟨bI (if wd < 0 then true else (if wd ≤ 65535 then false else true)), wd, hw, by rw [ht]; exact hP, hD⟩⟩, hS.F ht⟩) hS.2.2 dX3_control_31
def M_set (tf : Nat → Int32) (ff : Nat → Int64) (rg : Int32) (tp : Int32) (hi : Int32) (lw : Int32) : Int32 × (Nat → Int32) × (Nat → Int64) :=
  if bI (M_none rg) = 0 then (if (if tp < 0 then (2 : Int32) else (if tp ≤ 65535 then (0 : Int32) else (2 : Int32))) ≤ 0 then ((if tp < 0 then (2 : Int32) else (if tp ≤ 65535 then (0 : Int32) else (2 : Int32))), (upd tf rg.toNatClampNeg tp), (vp_updL ff rg.toNatClampNeg ((((hi).toInt64) * 4294967296) + (((lw).toInt64) &&& 4294967295))))
    else ((if tp < 0 then (2 : Int32) else (if tp ≤ 65535 then (0 : Int32) else (2 : Int32))), tf, ff))
  else (1, tf, ff)
theorem kS_X3_set : yX3_set.cls ≠ "java/lang/invoke/MethodHandle" ∧ yX3_set.cls ≠ "java/lang/invoke/VarHandle" ∧ (parseMethodDescriptor yX3_set.desc).map (fun d => d.parameters.length) = some 4 := by decide +kernel
theorem kV_X3_set : yX3_set.cls = RX3 ∧ yX3_set.cls ≠ "java/lang/invoke/MethodHandle" ∧ yX3_set.cls ≠ "java/lang/invoke/VarHandle" ∧ (parseMethodDescriptor yX3_set.desc).map (fun d => d.parameters.length) = some 4 := ⟨rfl, kS_X3_set⟩
set_option maxHeartbeats 4000000 in
set_option maxRecDepth 100000 in
theorem c_X3_set (l : Launch) (D : va_G) (h : Nat) (q1 : Nat) (q2 : Nat) (cA : ClassId) (cB : ClassId) (cd : Int32) (ct : Int32) (tf : Nat → Int32) (ff : Nat → Int64) (td : Int32) (an : Bool) (qb : Int32) (pa : Bool) (aT : Int32) (aF : Int64) (dg : Int64) (fi : Int32) (lo : Bool) (rg : Int32) (tp : Int32) (hi : Int32) (lw : Int32) (sz : Nat) : Met l yX3_set wsX3_set ({ frames := 1, cells := 0, slots := 0, locals := 20 } : Room) (va_Pc [.ref h, .int rg, .int tp, .int hi, .int lw] (MMB D (tRS cA cB) (cMd h q1 q2 cA cB cd ct tf ff td an qb pa aT aF dg fi lo) sz)) (va_Qv (fun (_ : Unit) => True) (fun _ t => ∃ (w_cd : Int32) (w_tf : Nat → Int32) (w_ff : Nat → Int64), M_set tf ff rg tp hi lw = (w_cd, w_tf, w_ff) ∧ va_P D vwCl (cMd h q1 q2 cA cB w_cd ct w_tf w_ff td an qb pa aT aF dg fi lo) t.heap ∧ va_D (va_A (cMd h q1 q2 cA cB cd ct tf ff td an qb pa aT aF dg fi lo) sz) (cMd h q1 q2 cA cB w_cd ct w_tf w_ff td an qb pa aT aF dg fi lo)) (va_A (cMd h q1 q2 cA cB cd ct tf ff td an qb pa aT aF dg fi lo) sz)) 0 0 (va_A (cMd h q1 q2 cA cB cd ct tf ff td an qb pa aT aF dg fi lo) sz) := by
  refine Met.ofW (cc := cX3_set) (maxL := 5) (ret := none) (by decide) rfl ?_
  intro p e s m args below meth c s₁ B hml hv
  obtain ⟨rfl, hsz, hP, hK, hD0⟩ := hv
  have hx := B.exec
  have hb := B.bytes
  have hr := B.returns
  have hts := atoms_spec (ws := wsX3_set) B.pre
  have hown : s.vm.findClass RX3 = some m.cls := findClass_of_methodNamed B.named
  have hlocks := B.notSynchronized
  have w_1 := hts (.constant RX3 24 (65535)) (by decide +kernel)
  have w_2 := hts (.fieldLink RX3 21 "RealStepsModel" "code" "I") (by decide +kernel)
  have in_X3 : ∀ w ∈ wsX30, w ∈ wsX3_set := by decide +kernel
  have w_4 := hts (.fieldLink RX3 13 "RealStepsModel" "top" "[I") (by decide +kernel)
  have w_5 := hts (.fieldLink RX3 17 "RealStepsModel" "fraction" "[J") (by decide +kernel)
  have w_6 := hts (.constantLong RX3 29 (4294967296)) (by decide +kernel)
  have w_7 := hts (.constantLong RX3 31 (4294967295)) (by decide +kernel)
  subst hsz
  have hD := hD0.self (sz := s.heap.size)
  generalize hAe : va_A (cMd h q1 q2 cA cB cd ct tf ff td an qb pa aT aF dg fi lo) s.heap.size = A at hD ⊢
  have hA : ∀ q : Nat, s.heap.size ≤ q → A q := fun q h => by rw [← hAe]; exact Or.inr h
  have hS : va_S A s.heap s.heap [] := va_S.rf
  have hP : va_P D vwCl (cMd h q1 q2 cA cB cd ct tf ff td an qb pa aT aF dg fi lo) s.heap := hP
  have hl := lv_entry ([.ref h, .int rg, .int tp, .int hi, .int lw]) (n := 5) (Nat.le_of_ble_eq_true rfl)
  rw [lg_entry_eq]
  generalize (lg_sl ([.ref h, .int rg, .int tp, .int hi, .int lw]) ++ List.replicate (5 - (lg_sl ([.ref h, .int rg, .int tp, .int hi, .int lw])).length) Slot.unset).toArray = ls at hl ⊢
  have hl : lv_has ls 5 [(0, .ref h), (1, .int rg), (2, .int tp), (3, .int hi), (4, .int lw)] := hl
  refine lv_aload_n hx hb dX3_set_0 rfl (lv_at hl 0 rfl) ?_
  refine lv_iload_n hx hb dX3_set_1 rfl (lv_at hl 1 rfl) ?_
  refine vp_callSi (va_cr (va_runS (As := [.int rg]) (rest := [.ref h]) ⟨hx, hb, hml, hown, hts⟩ (c_X3_none l rg) (va_cwS 1 hts gX3_set_X3_none rfl rfl rfl kS_X3_none ⟨Nat.le_of_ble_eq_true rfl, Nat.le_of_ble_eq_true rfl⟩) ⟨TB.blind, TB.pre⟩ rfl rfl hl.1 rfl (lv_room (Nat.le_of_ble_eq_true rfl)) dX3_set_2 ⟨Nat.le_of_ble_eq_true rfl, Nat.le_of_ble_eq_true rfl⟩)) (fun r9 e9 => ?_)
  rw [e9]
  refine lv_if_eq (tgt := 12) hx hb dX3_set_5 (by decide) (fun c_1 => ?_) (fun c_1 => ?_)
  · refine lv_iload_n hx hb dX3_set_12 rfl (lv_at hl 2 rfl) ?_
    refine q_cut (v := (if tp < 0 then (2 : Int32) else (if tp ≤ 65535 then (0 : Int32) else (2 : Int32)))) (pcJ := 27) (rest := [.ref h]) (fun J => ?_) ?_
    · refine lv_if_lt (tgt := 22) hx hb dX3_set_13 (by decide) (fun c_2 => ?_) (fun c_2 => ?_)
      · refine lv_iconst (v := 2) hx hb dX3_set_22 (by decide) ?_
        refine lv_goto (tgt := 27) hx hb dX3_set_23 (by decide) ?_
        exact J _ (by rw [if_pos c_2]; try rfl)
      · refine lv_iload_n hx hb dX3_set_16 rfl (lv_at hl 2 rfl) ?_
        refine lv_ldc (v := 65535) hx hb hown w_1 dX3_set_17 ?_
        refine lv_icmp_le (tgt := 26) hx hb dX3_set_19 (by decide) (fun c_3 => ?_) (fun c_3 => ?_)
        · refine lv_iconst (v := 0) hx hb dX3_set_26 (by decide) ?_
          exact J _ (by rw [if_neg c_2, if_pos c_3]; try rfl)
        · refine lv_iconst (v := 2) hx hb dX3_set_22 (by decide) ?_
          refine lv_goto (tgt := 27) hx hb dX3_set_23 (by decide) ?_
          exact J _ (by rw [if_neg c_2, if_neg c_3]; try rfl)
    refine va_put (v := .int (if tp < 0 then (2 : Int32) else (if tp ≤ 65535 then (0 : Int32) else (2 : Int32)))) (ty := .int) (C := RX3) (T := TX3) (N := 13) hx hb hts in_X3 tyX3 tyX3_ok nmX3 hown hK hP hD hS 0 rfl rfl 0 (by decide) w_2 (fun _ h9 => h9) rfl (tyX3_ok 0 (by decide)) rfl rfl (Nat.le_of_ble_eq_true rfl) dX3_set_27 (fun H locs hP hD hS => ?_)
    have hP : va_P D vwCl (cMd h q1 q2 cA cB (if tp < 0 then (2 : Int32) else (if tp ≤ 65535 then (0 : Int32) else (2 : Int32))) ct tf ff td an qb pa aT aF dg fi lo) H := hP
    have hD : va_D A (cMd h q1 q2 cA cB (if tp < 0 then (2 : Int32) else (if tp ≤ 65535 then (0 : Int32) else (2 : Int32))) ct tf ff td an qb pa aT aF dg fi lo) := hD
    refine lv_aload_n hx hb dX3_set_30 rfl (lv_at hl 0 rfl) ?_
    refine va_get (v := .int (if tp < 0 then (2 : Int32) else (if tp ≤ 65535 then (0 : Int32) else (2 : Int32)))) (C := RX3) (T := TX3) (N := 13) hx hb hts in_X3 hown hK hP 0 rfl rfl 0 (by decide) w_2 (fun _ h9 => h9) rfl dX3_set_31 ?_
    refine lv_if_le (tgt := 38) hx hb dX3_set_34 (by decide) (fun c_4 => ?_) (fun c_4 => ?_)
    · refine lv_aload_n hx hb dX3_set_38 rfl (lv_at hl 0 rfl) ?_
      refine va_get (v := .ref q1) (C := RX3) (T := TX3) (N := 13) hx hb hts in_X3 hown hK hP 0 rfl rfl 2 (by decide) w_4 (fun _ h9 => h9) rfl dX3_set_39 ?_
      refine lv_iload_n hx hb dX3_set_42 rfl (lv_at hl 1 rfl) ?_
      refine lv_iload_n hx hb dX3_set_43 rfl (lv_at hl 2 rfl) ?_
      refine va_iast hx hb hK hP hD hS 1 0 rfl rfl (M_none_in c_1) dX3_set_44 (fun H locs hP hD hS => ?_)
      have hP : va_P D vwCl (cMd h q1 q2 cA cB (if tp < 0 then (2 : Int32) else (if tp ≤ 65535 then (0 : Int32) else (2 : Int32))) ct (upd tf rg.toNatClampNeg tp) ff td an qb pa aT aF dg fi lo) H := hP
      have hD : va_D A (cMd h q1 q2 cA cB (if tp < 0 then (2 : Int32) else (if tp ≤ 65535 then (0 : Int32) else (2 : Int32))) ct (upd tf rg.toNatClampNeg tp) ff td an qb pa aT aF dg fi lo) := hD
      refine lv_aload_n hx hb dX3_set_45 rfl (lv_at hl 0 rfl) ?_
      refine va_get (v := .ref q2) (C := RX3) (T := TX3) (N := 13) hx hb hts in_X3 hown hK hP 0 rfl rfl 3 (by decide) w_5 (fun _ h9 => h9) rfl dX3_set_46 ?_
      refine lv_iload_n hx hb dX3_set_49 rfl (lv_at hl 1 rfl) ?_
      refine lv_iload_n hx hb dX3_set_50 rfl (lv_at hl 3 rfl) ?_
      refine lv_i2l (v := (hi).toInt64) hx hb dX3_set_51 rfl ?_
      refine lv_ldc2 (v := 4294967296) hx hb hown w_6 dX3_set_52 ?_
      refine lv_lmul hx hb dX3_set_55 ?_
      refine lv_iload hx hb dX3_set_56 (lv_at hl 4 rfl) ?_
      refine lv_i2l (v := (lw).toInt64) hx hb dX3_set_58 rfl ?_
      refine lv_ldc2 (v := 4294967295) hx hb hown w_7 dX3_set_59 ?_
      refine lv_land hx hb dX3_set_62 ?_
      refine lv_ladd hx hb dX3_set_63 ?_
      refine va_last hx hb hK hP hD hS 2 1 rfl rfl (M_none_in c_1) dX3_set_64 (fun H locs hP hD hS => ?_)
      have hP : va_P D vwCl (cMd h q1 q2 cA cB (if tp < 0 then (2 : Int32) else (if tp ≤ 65535 then (0 : Int32) else (2 : Int32))) ct (upd tf rg.toNatClampNeg tp) (vp_updL ff rg.toNatClampNeg ((((hi).toInt64) * 4294967296) + (((lw).toInt64) &&& 4294967295))) td an qb pa aT aF dg fi lo) H := hP
      have hD : va_D A (cMd h q1 q2 cA cB (if tp < 0 then (2 : Int32) else (if tp ≤ 65535 then (0 : Int32) else (2 : Int32))) ct (upd tf rg.toNatClampNeg tp) (vp_updL ff rg.toNatClampNeg ((((hi).toInt64) * 4294967296) + (((lw).toInt64) &&& 4294967295))) td an qb pa aT aF dg fi lo) := hD
      have hw : M_set tf ff rg tp hi lw = ((if tp < 0 then (2 : Int32) else (if tp ≤ 65535 then (0 : Int32) else (2 : Int32))), (upd tf rg.toNatClampNeg tp), (vp_updL ff rg.toNatClampNeg ((((hi).toInt64) * 4294967296) + (((lw).toInt64) &&& 4294967295)))) := by unfold M_set; rw [if_pos c_1, if_pos c_4]; try rfl
      exact W.vret hx hb hr (fun t9 ht hW => ⟨⟨(), rfl, trivial, ⟨(if tp < 0 then (2 : Int32) else (if tp ≤ 65535 then (0 : Int32) else (2 : Int32))), (upd tf rg.toNatClampNeg tp), (vp_updL ff rg.toNatClampNeg ((((hi).toInt64) * 4294967296) + (((lw).toInt64) &&& 4294967295))), hw, by rw [ht]; exact hP, hD⟩⟩, hS.F ht⟩) hS.2.2 dX3_set_65
    · have hw : M_set tf ff rg tp hi lw = ((if tp < 0 then (2 : Int32) else (if tp ≤ 65535 then (0 : Int32) else (2 : Int32))), tf, ff) := by unfold M_set; rw [if_pos c_1, if_neg c_4]; try rfl
      exact W.vret hx hb hr (fun t9 ht hW => ⟨⟨(), rfl, trivial, ⟨(if tp < 0 then (2 : Int32) else (if tp ≤ 65535 then (0 : Int32) else (2 : Int32))), tf, ff, hw, by rw [ht]; exact hP, hD⟩⟩, hS.F ht⟩) hS.2.2 dX3_set_37
  · refine lv_iconst (v := 1) hx hb dX3_set_8 (by decide) ?_
    refine lv_goto (tgt := 27) hx hb dX3_set_9 (by decide) ?_
    refine va_put (v := .int 1) (ty := .int) (C := RX3) (T := TX3) (N := 13) hx hb hts in_X3 tyX3 tyX3_ok nmX3 hown hK hP hD hS 0 rfl rfl 0 (by decide) w_2 (fun _ h9 => h9) rfl (tyX3_ok 0 (by decide)) rfl rfl (Nat.le_of_ble_eq_true rfl) dX3_set_27 (fun H locs hP hD hS => ?_)
    have hP : va_P D vwCl (cMd h q1 q2 cA cB 1 ct tf ff td an qb pa aT aF dg fi lo) H := hP
    have hD : va_D A (cMd h q1 q2 cA cB 1 ct tf ff td an qb pa aT aF dg fi lo) := hD
    refine lv_aload_n hx hb dX3_set_30 rfl (lv_at hl 0 rfl) ?_
    refine va_get (v := .int 1) (C := RX3) (T := TX3) (N := 13) hx hb hts in_X3 hown hK hP 0 rfl rfl 0 (by decide) w_2 (fun _ h9 => h9) rfl dX3_set_31 ?_
    refine lv_if_le (tgt := 38) hx hb dX3_set_34 (by decide) (fun c_5 => ?_) (fun c_5 => ?_)
    · exact absurd c_5 (by decide)
    · have hw : M_set tf ff rg tp hi lw = (1, tf, ff) := by unfold M_set; rw [if_neg c_1]; try rfl
      exact W.vret hx hb hr (fun t9 ht hW => ⟨⟨(), rfl, trivial, ⟨1, tf, ff, hw, by rw [ht]; exact hP, hD⟩⟩, hS.F ht⟩) hS.2.2 dX3_set_37
def M_part (tf : Nat → Int32) (ff : Nat → Int64) (rg : Int32) (wh : Int32) : Int32 × Int32 :=
  if bI (M_none rg) = 0 then (if (if wh < 0 then (2 : Int32) else (if wh ≤ 2 then (0 : Int32) else (2 : Int32))) ≤ 0 then ((if wh = 0 then (tf rg.toNatClampNeg) else (if wh = 1 then ((jlshr (ff rg.toNatClampNeg) 32)).toInt32 else ((ff rg.toNatClampNeg)).toInt32)), (if wh < 0 then (2 : Int32) else (if wh ≤ 2 then (0 : Int32) else (2 : Int32))))
    else (0, (if wh < 0 then (2 : Int32) else (if wh ≤ 2 then (0 : Int32) else (2 : Int32)))))
  else (0, 1)
theorem kS_X3_part : yX3_part.cls ≠ "java/lang/invoke/MethodHandle" ∧ yX3_part.cls ≠ "java/lang/invoke/VarHandle" ∧ (parseMethodDescriptor yX3_part.desc).map (fun d => d.parameters.length) = some 2 := by decide +kernel
theorem kV_X3_part : yX3_part.cls = RX3 ∧ yX3_part.cls ≠ "java/lang/invoke/MethodHandle" ∧ yX3_part.cls ≠ "java/lang/invoke/VarHandle" ∧ (parseMethodDescriptor yX3_part.desc).map (fun d => d.parameters.length) = some 2 := ⟨rfl, kS_X3_part⟩
set_option maxHeartbeats 4000000 in
set_option maxRecDepth 100000 in
theorem c_X3_part (l : Launch) (D : va_G) (h : Nat) (q1 : Nat) (q2 : Nat) (cA : ClassId) (cB : ClassId) (cd : Int32) (ct : Int32) (tf : Nat → Int32) (ff : Nat → Int64) (td : Int32) (an : Bool) (qb : Int32) (pa : Bool) (aT : Int32) (aF : Int64) (dg : Int64) (fi : Int32) (lo : Bool) (rg : Int32) (wh : Int32) (sz : Nat) : Met l yX3_part wsX3_part ({ frames := 1, cells := 0, slots := 0, locals := 20 } : Room) (va_Pc [.ref h, .int rg, .int wh] (MMB D (tRS cA cB) (cMd h q1 q2 cA cB cd ct tf ff td an qb pa aT aF dg fi lo) sz)) (va_Qi (fun (r u : Int32) => r = u) (fun u t => ∃ (w_cd : Int32), M_part tf ff rg wh = (u, w_cd) ∧ va_P D vwCl (cMd h q1 q2 cA cB w_cd ct tf ff td an qb pa aT aF dg fi lo) t.heap ∧ va_D (va_A (cMd h q1 q2 cA cB cd ct tf ff td an qb pa aT aF dg fi lo) sz) (cMd h q1 q2 cA cB w_cd ct tf ff td an qb pa aT aF dg fi lo)) (va_A (cMd h q1 q2 cA cB cd ct tf ff td an qb pa aT aF dg fi lo) sz)) 0 0 (va_A (cMd h q1 q2 cA cB cd ct tf ff td an qb pa aT aF dg fi lo) sz) := by
  refine Met.ofW (cc := cX3_part) (maxL := 3) (ret := (some .int)) (by decide) rfl ?_
  intro p e s m args below meth c s₁ B hml hv
  obtain ⟨rfl, hsz, hP, hK, hD0⟩ := hv
  have hx := B.exec
  have hb := B.bytes
  have hr := B.returns
  have hts := atoms_spec (ws := wsX3_part) B.pre
  have hown : s.vm.findClass RX3 = some m.cls := findClass_of_methodNamed B.named
  have hlocks := B.notSynchronized
  have w_1 := hts (.fieldLink RX3 21 "RealStepsModel" "code" "I") (by decide +kernel)
  have in_X3 : ∀ w ∈ wsX30, w ∈ wsX3_part := by decide +kernel
  have w_3 := hts (.fieldLink RX3 17 "RealStepsModel" "fraction" "[J") (by decide +kernel)
  have w_4 := hts (.fieldLink RX3 13 "RealStepsModel" "top" "[I") (by decide +kernel)
  subst hsz
  have hD := hD0.self (sz := s.heap.size)
  generalize hAe : va_A (cMd h q1 q2 cA cB cd ct tf ff td an qb pa aT aF dg fi lo) s.heap.size = A at hD ⊢
  have hA : ∀ q : Nat, s.heap.size ≤ q → A q := fun q h => by rw [← hAe]; exact Or.inr h
  have hS : va_S A s.heap s.heap [] := va_S.rf
  have hP : va_P D vwCl (cMd h q1 q2 cA cB cd ct tf ff td an qb pa aT aF dg fi lo) s.heap := hP
  have hl := lv_entry ([.ref h, .int rg, .int wh]) (n := 3) (Nat.le_of_ble_eq_true rfl)
  rw [lg_entry_eq]
  generalize (lg_sl ([.ref h, .int rg, .int wh]) ++ List.replicate (3 - (lg_sl ([.ref h, .int rg, .int wh])).length) Slot.unset).toArray = ls at hl ⊢
  have hl : lv_has ls 3 [(0, .ref h), (1, .int rg), (2, .int wh)] := hl
  refine lv_aload_n hx hb dX3_part_0 rfl (lv_at hl 0 rfl) ?_
  refine lv_iload_n hx hb dX3_part_1 rfl (lv_at hl 1 rfl) ?_
  refine vp_callSi (va_cr (va_runS (As := [.int rg]) (rest := [.ref h]) ⟨hx, hb, hml, hown, hts⟩ (c_X3_none l rg) (va_cwS 1 hts gX3_part_X3_none rfl rfl rfl kS_X3_none ⟨Nat.le_of_ble_eq_true rfl, Nat.le_of_ble_eq_true rfl⟩) ⟨TB.blind, TB.pre⟩ rfl rfl hl.1 rfl (lv_room (Nat.le_of_ble_eq_true rfl)) dX3_part_2 ⟨Nat.le_of_ble_eq_true rfl, Nat.le_of_ble_eq_true rfl⟩)) (fun r9 e9 => ?_)
  rw [e9]
  refine lv_if_eq (tgt := 12) hx hb dX3_part_5 (by decide) (fun c_1 => ?_) (fun c_1 => ?_)
  · refine lv_iload_n hx hb dX3_part_12 rfl (lv_at hl 2 rfl) ?_
    refine q_cut (v := (if wh < 0 then (2 : Int32) else (if wh ≤ 2 then (0 : Int32) else (2 : Int32)))) (pcJ := 26) (rest := [.ref h]) (fun J => ?_) ?_
    · refine lv_if_lt (tgt := 21) hx hb dX3_part_13 (by decide) (fun c_2 => ?_) (fun c_2 => ?_)
      · refine lv_iconst (v := 2) hx hb dX3_part_21 (by decide) ?_
        refine lv_goto (tgt := 26) hx hb dX3_part_22 (by decide) ?_
        exact J _ (by rw [if_pos c_2]; try rfl)
      · refine lv_iload_n hx hb dX3_part_16 rfl (lv_at hl 2 rfl) ?_
        refine lv_iconst (v := 2) hx hb dX3_part_17 (by decide) ?_
        refine lv_icmp_le (tgt := 25) hx hb dX3_part_18 (by decide) (fun c_3 => ?_) (fun c_3 => ?_)
        · refine lv_iconst (v := 0) hx hb dX3_part_25 (by decide) ?_
          exact J _ (by rw [if_neg c_2, if_pos c_3]; try rfl)
        · refine lv_iconst (v := 2) hx hb dX3_part_21 (by decide) ?_
          refine lv_goto (tgt := 26) hx hb dX3_part_22 (by decide) ?_
          exact J _ (by rw [if_neg c_2, if_neg c_3]; try rfl)
    refine va_put (v := .int (if wh < 0 then (2 : Int32) else (if wh ≤ 2 then (0 : Int32) else (2 : Int32)))) (ty := .int) (C := RX3) (T := TX3) (N := 13) hx hb hts in_X3 tyX3 tyX3_ok nmX3 hown hK hP hD hS 0 rfl rfl 0 (by decide) w_1 (fun _ h9 => h9) rfl (tyX3_ok 0 (by decide)) rfl rfl (Nat.le_of_ble_eq_true rfl) dX3_part_26 (fun H locs hP hD hS => ?_)
    have hP : va_P D vwCl (cMd h q1 q2 cA cB (if wh < 0 then (2 : Int32) else (if wh ≤ 2 then (0 : Int32) else (2 : Int32))) ct tf ff td an qb pa aT aF dg fi lo) H := hP
    have hD : va_D A (cMd h q1 q2 cA cB (if wh < 0 then (2 : Int32) else (if wh ≤ 2 then (0 : Int32) else (2 : Int32))) ct tf ff td an qb pa aT aF dg fi lo) := hD
    refine lv_aload_n hx hb dX3_part_29 rfl (lv_at hl 0 rfl) ?_
    refine va_get (v := .int (if wh < 0 then (2 : Int32) else (if wh ≤ 2 then (0 : Int32) else (2 : Int32)))) (C := RX3) (T := TX3) (N := 13) hx hb hts in_X3 hown hK hP 0 rfl rfl 0 (by decide) w_1 (fun _ h9 => h9) rfl dX3_part_30 ?_
    refine lv_if_le (tgt := 38) hx hb dX3_part_33 (by decide) (fun c_4 => ?_) (fun c_4 => ?_)
    · refine lv_iload_n hx hb dX3_part_38 rfl (lv_at hl 2 rfl) ?_
      refine q_cut (v := (if wh = 0 then (tf rg.toNatClampNeg) else (if wh = 1 then ((jlshr (ff rg.toNatClampNeg) 32)).toInt32 else ((ff rg.toNatClampNeg)).toInt32))) (pcJ := 76) (rest := []) (fun J => ?_) ?_
      · refine lv_if_ne (tgt := 51) hx hb dX3_part_39 (by decide) (fun c_5 => ?_) (fun c_5 => ?_)
        · refine lv_iload_n hx hb dX3_part_51 rfl (lv_at hl 2 rfl) ?_
          refine lv_iconst (v := 1) hx hb dX3_part_52 (by decide) ?_
          refine lv_icmp_ne (tgt := 69) hx hb dX3_part_53 (by decide) (fun c_6 => ?_) (fun c_6 => ?_)
          · refine lv_aload_n hx hb dX3_part_69 rfl (lv_at hl 0 rfl) ?_
            refine va_get (v := .ref q2) (C := RX3) (T := TX3) (N := 13) hx hb hts in_X3 hown hK hP 0 rfl rfl 3 (by decide) w_3 (fun _ h9 => h9) rfl dX3_part_70 ?_
            refine lv_iload_n hx hb dX3_part_73 rfl (lv_at hl 1 rfl) ?_
            refine va_lald hx hb hK hP 2 1 rfl rfl (M_none_in c_1) dX3_part_74 ?_
            refine lv_l2i (v := ((ff rg.toNatClampNeg)).toInt32) hx hb dX3_part_75 rfl ?_
            exact J _ (by rw [if_neg c_5, if_neg c_6]; try rfl)
          · refine lv_aload_n hx hb dX3_part_56 rfl (lv_at hl 0 rfl) ?_
            refine va_get (v := .ref q2) (C := RX3) (T := TX3) (N := 13) hx hb hts in_X3 hown hK hP 0 rfl rfl 3 (by decide) w_3 (fun _ h9 => h9) rfl dX3_part_57 ?_
            refine lv_iload_n hx hb dX3_part_60 rfl (lv_at hl 1 rfl) ?_
            refine va_lald hx hb hK hP 2 1 rfl rfl (M_none_in c_1) dX3_part_61 ?_
            refine lv_bipush (v := 32) hx hb dX3_part_62 (by decide) ?_
            refine lv_lshr (v := (jlshr (ff rg.toNatClampNeg) 32)) hx hb dX3_part_64 rfl ?_
            refine lv_l2i (v := ((jlshr (ff rg.toNatClampNeg) 32)).toInt32) hx hb dX3_part_65 rfl ?_
            refine lv_goto (tgt := 76) hx hb dX3_part_66 (by decide) ?_
            exact J _ (by rw [if_neg c_5, if_pos c_6]; try rfl)
        · refine lv_aload_n hx hb dX3_part_42 rfl (lv_at hl 0 rfl) ?_
          refine va_get (v := .ref q1) (C := RX3) (T := TX3) (N := 13) hx hb hts in_X3 hown hK hP 0 rfl rfl 2 (by decide) w_4 (fun _ h9 => h9) rfl dX3_part_43 ?_
          refine lv_iload_n hx hb dX3_part_46 rfl (lv_at hl 1 rfl) ?_
          refine va_iald hx hb hK hP 1 0 rfl rfl (M_none_in c_1) dX3_part_47 ?_
          refine lv_goto (tgt := 76) hx hb dX3_part_48 (by decide) ?_
          exact J _ (by rw [if_pos c_5]; try rfl)
      have hw : M_part tf ff rg wh = ((if wh = 0 then (tf rg.toNatClampNeg) else (if wh = 1 then ((jlshr (ff rg.toNatClampNeg) 32)).toInt32 else ((ff rg.toNatClampNeg)).toInt32)), (if wh < 0 then (2 : Int32) else (if wh ≤ 2 then (0 : Int32) else (2 : Int32)))) := by unfold M_part; rw [if_pos c_1, if_pos c_4]; try rfl
      exact W.iret hx hb hr (fun t9 ht hW => ⟨⟨_, (if wh = 0 then (tf rg.toNatClampNeg) else (if wh = 1 then ((jlshr (ff rg.toNatClampNeg) 32)).toInt32 else ((ff rg.toNatClampNeg)).toInt32)), rfl, rfl, ⟨(if wh < 0 then (2 : Int32) else (if wh ≤ 2 then (0 : Int32) else (2 : Int32))), hw, by rw [ht]; exact hP, hD⟩⟩, hS.F ht⟩) hS.2.2 dX3_part_76
    · refine lv_iconst (v := 0) hx hb dX3_part_36 (by decide) ?_
      have hw : M_part tf ff rg wh = (0, (if wh < 0 then (2 : Int32) else (if wh ≤ 2 then (0 : Int32) else (2 : Int32)))) := by unfold M_part; rw [if_pos c_1, if_neg c_4]; try rfl
      exact W.iret hx hb hr (fun t9 ht hW => ⟨⟨_, 0, rfl, rfl, ⟨(if wh < 0 then (2 : Int32) else (if wh ≤ 2 then (0 : Int32) else (2 : Int32))), hw, by rw [ht]; exact hP, hD⟩⟩, hS.F ht⟩) hS.2.2 dX3_part_37
  · refine lv_iconst (v := 1) hx hb dX3_part_8 (by decide) ?_
    refine lv_goto (tgt := 26) hx hb dX3_part_9 (by decide) ?_
    refine va_put (v := .int 1) (ty := .int) (C := RX3) (T := TX3) (N := 13) hx hb hts in_X3 tyX3 tyX3_ok nmX3 hown hK hP hD hS 0 rfl rfl 0 (by decide) w_1 (fun _ h9 => h9) rfl (tyX3_ok 0 (by decide)) rfl rfl (Nat.le_of_ble_eq_true rfl) dX3_part_26 (fun H locs hP hD hS => ?_)
    have hP : va_P D vwCl (cMd h q1 q2 cA cB 1 ct tf ff td an qb pa aT aF dg fi lo) H := hP
    have hD : va_D A (cMd h q1 q2 cA cB 1 ct tf ff td an qb pa aT aF dg fi lo) := hD
    refine lv_aload_n hx hb dX3_part_29 rfl (lv_at hl 0 rfl) ?_
    refine va_get (v := .int 1) (C := RX3) (T := TX3) (N := 13) hx hb hts in_X3 hown hK hP 0 rfl rfl 0 (by decide) w_1 (fun _ h9 => h9) rfl dX3_part_30 ?_
    refine lv_if_le (tgt := 38) hx hb dX3_part_33 (by decide) (fun c_7 => ?_) (fun c_7 => ?_)
    · exact absurd c_7 (by decide)
    · refine lv_iconst (v := 0) hx hb dX3_part_36 (by decide) ?_
      have hw : M_part tf ff rg wh = (0, 1) := by unfold M_part; rw [if_neg c_1]; try rfl
      exact W.iret hx hb hr (fun t9 ht hW => ⟨⟨_, 0, rfl, rfl, ⟨1, hw, by rw [ht]; exact hP, hD⟩⟩, hS.F ht⟩) hS.2.2 dX3_part_37
def M_turn (tf : Nat → Int32) (rg : Int32) (aw : Bool) : Int32 × (Nat → Int32) :=
  if bI (M_none rg) = 0 then (0, (upd tf rg.toNatClampNeg (if (tf rg.toNatClampNeg) ≤ 32767 then (if bI aw = 0 then ((tf rg.toNatClampNeg) + 32768) else (tf rg.toNatClampNeg)) else ((tf rg.toNatClampNeg) - 32768))))
  else (1, tf)
theorem kS_X3_turn : yX3_turn.cls ≠ "java/lang/invoke/MethodHandle" ∧ yX3_turn.cls ≠ "java/lang/invoke/VarHandle" ∧ (parseMethodDescriptor yX3_turn.desc).map (fun d => d.parameters.length) = some 2 := by decide +kernel
theorem kV_X3_turn : yX3_turn.cls = RX3 ∧ yX3_turn.cls ≠ "java/lang/invoke/MethodHandle" ∧ yX3_turn.cls ≠ "java/lang/invoke/VarHandle" ∧ (parseMethodDescriptor yX3_turn.desc).map (fun d => d.parameters.length) = some 2 := ⟨rfl, kS_X3_turn⟩
set_option maxHeartbeats 4000000 in
set_option maxRecDepth 100000 in
theorem c_X3_turn (l : Launch) (D : va_G) (h : Nat) (q1 : Nat) (q2 : Nat) (cA : ClassId) (cB : ClassId) (cd : Int32) (ct : Int32) (tf : Nat → Int32) (ff : Nat → Int64) (td : Int32) (an : Bool) (qb : Int32) (pa : Bool) (aT : Int32) (aF : Int64) (dg : Int64) (fi : Int32) (lo : Bool) (rg : Int32) (aw : Bool) (sz : Nat) : Met l yX3_turn wsX3_turn ({ frames := 1, cells := 0, slots := 0, locals := 20 } : Room) (va_Pc [.ref h, .int rg, .int (bI aw)] (MMB D (tRS cA cB) (cMd h q1 q2 cA cB cd ct tf ff td an qb pa aT aF dg fi lo) sz)) (va_Qv (fun (_ : Unit) => True) (fun _ t => ∃ (w_cd : Int32) (w_tf : Nat → Int32), M_turn tf rg aw = (w_cd, w_tf) ∧ va_P D vwCl (cMd h q1 q2 cA cB w_cd ct w_tf ff td an qb pa aT aF dg fi lo) t.heap ∧ va_D (va_A (cMd h q1 q2 cA cB cd ct tf ff td an qb pa aT aF dg fi lo) sz) (cMd h q1 q2 cA cB w_cd ct w_tf ff td an qb pa aT aF dg fi lo)) (va_A (cMd h q1 q2 cA cB cd ct tf ff td an qb pa aT aF dg fi lo) sz)) 0 0 (va_A (cMd h q1 q2 cA cB cd ct tf ff td an qb pa aT aF dg fi lo) sz) := by
  refine Met.ofW (cc := cX3_turn) (maxL := 3) (ret := none) (by decide) rfl ?_
  intro p e s m args below meth c s₁ B hml hv
  obtain ⟨rfl, hsz, hP, hK, hD0⟩ := hv
  have hx := B.exec
  have hb := B.bytes
  have hr := B.returns
  have hts := atoms_spec (ws := wsX3_turn) B.pre
  have hown : s.vm.findClass RX3 = some m.cls := findClass_of_methodNamed B.named
  have hlocks := B.notSynchronized
  have w_1 := hts (.fieldLink RX3 21 "RealStepsModel" "code" "I") (by decide +kernel)
  have in_X3 : ∀ w ∈ wsX30, w ∈ wsX3_turn := by decide +kernel
  have w_3 := hts (.fieldLink RX3 13 "RealStepsModel" "top" "[I") (by decide +kernel)
  have w_4 := hts (.constant RX3 33 (32768)) (by decide +kernel)
  subst hsz
  have hD := hD0.self (sz := s.heap.size)
  generalize hAe : va_A (cMd h q1 q2 cA cB cd ct tf ff td an qb pa aT aF dg fi lo) s.heap.size = A at hD ⊢
  have hA : ∀ q : Nat, s.heap.size ≤ q → A q := fun q h => by rw [← hAe]; exact Or.inr h
  have hS : va_S A s.heap s.heap [] := va_S.rf
  have hP : va_P D vwCl (cMd h q1 q2 cA cB cd ct tf ff td an qb pa aT aF dg fi lo) s.heap := hP
  have hl := lv_entry ([.ref h, .int rg, .int (bI aw)]) (n := 3) (Nat.le_of_ble_eq_true rfl)
  rw [lg_entry_eq]
  generalize (lg_sl ([.ref h, .int rg, .int (bI aw)]) ++ List.replicate (3 - (lg_sl ([.ref h, .int rg, .int (bI aw)])).length) Slot.unset).toArray = ls at hl ⊢
  have hl : lv_has ls 3 [(0, .ref h), (1, .int rg), (2, .int (bI aw))] := hl
  refine lv_aload_n hx hb dX3_turn_0 rfl (lv_at hl 0 rfl) ?_
  refine lv_iload_n hx hb dX3_turn_1 rfl (lv_at hl 1 rfl) ?_
  refine vp_callSi (va_cr (va_runS (As := [.int rg]) (rest := [.ref h]) ⟨hx, hb, hml, hown, hts⟩ (c_X3_none l rg) (va_cwS 1 hts gX3_turn_X3_none rfl rfl rfl kS_X3_none ⟨Nat.le_of_ble_eq_true rfl, Nat.le_of_ble_eq_true rfl⟩) ⟨TB.blind, TB.pre⟩ rfl rfl hl.1 rfl (lv_room (Nat.le_of_ble_eq_true rfl)) dX3_turn_2 ⟨Nat.le_of_ble_eq_true rfl, Nat.le_of_ble_eq_true rfl⟩)) (fun r9 e9 => ?_)
  rw [e9]
  refine lv_if_eq (tgt := 12) hx hb dX3_turn_5 (by decide) (fun c_1 => ?_) (fun c_1 => ?_)
  · refine lv_iconst (v := 0) hx hb dX3_turn_12 (by decide) ?_
    refine va_put (v := .int 0) (ty := .int) (C := RX3) (T := TX3) (N := 13) hx hb hts in_X3 tyX3 tyX3_ok nmX3 hown hK hP hD hS 0 rfl rfl 0 (by decide) w_1 (fun _ h9 => h9) rfl (tyX3_ok 0 (by decide)) rfl rfl (Nat.le_of_ble_eq_true rfl) dX3_turn_13 (fun H locs hP hD hS => ?_)
    have hP : va_P D vwCl (cMd h q1 q2 cA cB 0 ct tf ff td an qb pa aT aF dg fi lo) H := hP
    have hD : va_D A (cMd h q1 q2 cA cB 0 ct tf ff td an qb pa aT aF dg fi lo) := hD
    refine lv_aload_n hx hb dX3_turn_16 rfl (lv_at hl 0 rfl) ?_
    refine va_get (v := .int 0) (C := RX3) (T := TX3) (N := 13) hx hb hts in_X3 hown hK hP 0 rfl rfl 0 (by decide) w_1 (fun _ h9 => h9) rfl dX3_turn_17 ?_
    refine lv_if_ne (tgt := 75) hx hb dX3_turn_20 (by decide) (fun c_2 => ?_) (fun c_2 => ?_)
    · exact absurd c_2 (by decide)
    · refine lv_aload_n hx hb dX3_turn_23 rfl (lv_at hl 0 rfl) ?_
      refine va_get (v := .ref q1) (C := RX3) (T := TX3) (N := 13) hx hb hts in_X3 hown hK hP 0 rfl rfl 2 (by decide) w_3 (fun _ h9 => h9) rfl dX3_turn_24 ?_
      refine lv_iload_n hx hb dX3_turn_27 rfl (lv_at hl 1 rfl) ?_
      refine lv_aload_n hx hb dX3_turn_28 rfl (lv_at hl 0 rfl) ?_
      refine va_get (v := .ref q1) (C := RX3) (T := TX3) (N := 13) hx hb hts in_X3 hown hK hP 0 rfl rfl 2 (by decide) w_3 (fun _ h9 => h9) rfl dX3_turn_29 ?_
      refine lv_iload_n hx hb dX3_turn_32 rfl (lv_at hl 1 rfl) ?_
      refine va_iald hx hb hK hP 1 0 rfl rfl (M_none_in c_1) dX3_turn_33 ?_
      refine lv_sipush (v := 32767) hx hb dX3_turn_34 (by decide) ?_
      refine q_cut (v := (if (tf rg.toNatClampNeg) ≤ 32767 then (if bI aw = 0 then ((tf rg.toNatClampNeg) + 32768) else (tf rg.toNatClampNeg)) else ((tf rg.toNatClampNeg) - 32768))) (pcJ := 74) (rest := [.int rg, .ref q1]) (fun J => ?_) ?_
      · refine lv_icmp_le (tgt := 52) hx hb dX3_turn_37 (by decide) (fun c_3 => ?_) (fun c_3 => ?_)
        · refine lv_iload_n hx hb dX3_turn_52 rfl (lv_at hl 2 rfl) ?_
          refine lv_if_eq (tgt := 65) hx hb dX3_turn_53 (by decide) (fun c_4 => ?_) (fun c_4 => ?_)
          · refine lv_aload_n hx hb dX3_turn_65 rfl (lv_at hl 0 rfl) ?_
            refine va_get (v := .ref q1) (C := RX3) (T := TX3) (N := 13) hx hb hts in_X3 hown hK hP 0 rfl rfl 2 (by decide) w_3 (fun _ h9 => h9) rfl dX3_turn_66 ?_
            refine lv_iload_n hx hb dX3_turn_69 rfl (lv_at hl 1 rfl) ?_
            refine va_iald hx hb hK hP 1 0 rfl rfl (M_none_in c_1) dX3_turn_70 ?_
            refine lv_ldc (v := 32768) hx hb hown w_4 dX3_turn_71 ?_
            refine lv_iadd hx hb dX3_turn_73 ?_
            exact J _ (by rw [if_pos c_3, if_pos c_4]; try rfl)
          · refine lv_aload_n hx hb dX3_turn_56 rfl (lv_at hl 0 rfl) ?_
            refine va_get (v := .ref q1) (C := RX3) (T := TX3) (N := 13) hx hb hts in_X3 hown hK hP 0 rfl rfl 2 (by decide) w_3 (fun _ h9 => h9) rfl dX3_turn_57 ?_
            refine lv_iload_n hx hb dX3_turn_60 rfl (lv_at hl 1 rfl) ?_
            refine va_iald hx hb hK hP 1 0 rfl rfl (M_none_in c_1) dX3_turn_61 ?_
            refine lv_goto (tgt := 74) hx hb dX3_turn_62 (by decide) ?_
            exact J _ (by rw [if_pos c_3, if_neg c_4]; try rfl)
        · refine lv_aload_n hx hb dX3_turn_40 rfl (lv_at hl 0 rfl) ?_
          refine va_get (v := .ref q1) (C := RX3) (T := TX3) (N := 13) hx hb hts in_X3 hown hK hP 0 rfl rfl 2 (by decide) w_3 (fun _ h9 => h9) rfl dX3_turn_41 ?_
          refine lv_iload_n hx hb dX3_turn_44 rfl (lv_at hl 1 rfl) ?_
          refine va_iald hx hb hK hP 1 0 rfl rfl (M_none_in c_1) dX3_turn_45 ?_
          refine lv_ldc (v := 32768) hx hb hown w_4 dX3_turn_46 ?_
          refine lv_isub hx hb dX3_turn_48 ?_
          refine lv_goto (tgt := 74) hx hb dX3_turn_49 (by decide) ?_
          exact J _ (by rw [if_neg c_3]; try rfl)
      refine va_iast hx hb hK hP hD hS 1 0 rfl rfl (M_none_in c_1) dX3_turn_74 (fun H locs hP hD hS => ?_)
      have hP : va_P D vwCl (cMd h q1 q2 cA cB 0 ct (upd tf rg.toNatClampNeg (if (tf rg.toNatClampNeg) ≤ 32767 then (if bI aw = 0 then ((tf rg.toNatClampNeg) + 32768) else (tf rg.toNatClampNeg)) else ((tf rg.toNatClampNeg) - 32768))) ff td an qb pa aT aF dg fi lo) H := hP
      have hD : va_D A (cMd h q1 q2 cA cB 0 ct (upd tf rg.toNatClampNeg (if (tf rg.toNatClampNeg) ≤ 32767 then (if bI aw = 0 then ((tf rg.toNatClampNeg) + 32768) else (tf rg.toNatClampNeg)) else ((tf rg.toNatClampNeg) - 32768))) ff td an qb pa aT aF dg fi lo) := hD
      have hw : M_turn tf rg aw = (0, (upd tf rg.toNatClampNeg (if (tf rg.toNatClampNeg) ≤ 32767 then (if bI aw = 0 then ((tf rg.toNatClampNeg) + 32768) else (tf rg.toNatClampNeg)) else ((tf rg.toNatClampNeg) - 32768)))) := by unfold M_turn; rw [if_pos c_1]; try rfl
      exact W.vret hx hb hr (fun t9 ht hW => ⟨⟨(), rfl, trivial, ⟨0, (upd tf rg.toNatClampNeg (if (tf rg.toNatClampNeg) ≤ 32767 then (if bI aw = 0 then ((tf rg.toNatClampNeg) + 32768) else (tf rg.toNatClampNeg)) else ((tf rg.toNatClampNeg) - 32768))), hw, by rw [ht]; exact hP, hD⟩⟩, hS.F ht⟩) hS.2.2 dX3_turn_75
  · refine lv_iconst (v := 1) hx hb dX3_turn_8 (by decide) ?_
    refine lv_goto (tgt := 13) hx hb dX3_turn_9 (by decide) ?_
    refine va_put (v := .int 1) (ty := .int) (C := RX3) (T := TX3) (N := 13) hx hb hts in_X3 tyX3 tyX3_ok nmX3 hown hK hP hD hS 0 rfl rfl 0 (by decide) w_1 (fun _ h9 => h9) rfl (tyX3_ok 0 (by decide)) rfl rfl (Nat.le_of_ble_eq_true rfl) dX3_turn_13 (fun H locs hP hD hS => ?_)
    have hP : va_P D vwCl (cMd h q1 q2 cA cB 1 ct tf ff td an qb pa aT aF dg fi lo) H := hP
    have hD : va_D A (cMd h q1 q2 cA cB 1 ct tf ff td an qb pa aT aF dg fi lo) := hD
    refine lv_aload_n hx hb dX3_turn_16 rfl (lv_at hl 0 rfl) ?_
    refine va_get (v := .int 1) (C := RX3) (T := TX3) (N := 13) hx hb hts in_X3 hown hK hP 0 rfl rfl 0 (by decide) w_1 (fun _ h9 => h9) rfl dX3_turn_17 ?_
    refine lv_if_ne (tgt := 75) hx hb dX3_turn_20 (by decide) (fun c_5 => ?_) (fun c_5 => ?_)
    · have hw : M_turn tf rg aw = (1, tf) := by unfold M_turn; rw [if_neg c_1]; try rfl
      exact W.vret hx hb hr (fun t9 ht hW => ⟨⟨(), rfl, trivial, ⟨1, tf, hw, by rw [ht]; exact hP, hD⟩⟩, hS.F ht⟩) hS.2.2 dX3_turn_75
    · exact absurd c_5 (by decide)
def M_constant (tf : Nat → Int32) (ff : Nat → Int64) (wh : Int32) (rg : Int32) : Int32 × (Nat → Int32) × (Nat → Int64) :=
  if bI (M_none rg) = 0 then (if (if wh < 0 then (2 : Int32) else (if wh ≤ 6 then (0 : Int32) else (2 : Int32))) ≤ 0 then ((if wh < 0 then (2 : Int32) else (if wh ≤ 6 then (0 : Int32) else (2 : Int32))), (upd tf rg.toNatClampNeg (if wh = 0 then (0 : Int32) else (if wh = 2 then (16383 + 1) else (if wh = 4 then (16383 + 1) else (if wh = 5 then (16383 + (-2)) else (if wh = 6 then (16383 + (-1)) else (16383 + 0))))))), (vp_updL ff rg.toNatClampNeg (if wh = 0 then (0 : Int64) else (if wh = 1 then (-9223372036854775808 : Int64) else (if wh = 2 then (-3127054724296373506 : Int64) else (if wh = 3 then (-5140230975865229124 : Int64) else (if wh = 4 then (-3958705157555305931 : Int64) else (if wh = 5 then (-7340697496662837351 : Int64) else (-5660435428506895956 : Int64)))))))))
    else ((if wh < 0 then (2 : Int32) else (if wh ≤ 6 then (0 : Int32) else (2 : Int32))), tf, ff))
  else (1, tf, ff)
theorem kS_X3_constant : yX3_constant.cls ≠ "java/lang/invoke/MethodHandle" ∧ yX3_constant.cls ≠ "java/lang/invoke/VarHandle" ∧ (parseMethodDescriptor yX3_constant.desc).map (fun d => d.parameters.length) = some 2 := by decide +kernel
theorem kV_X3_constant : yX3_constant.cls = RX3 ∧ yX3_constant.cls ≠ "java/lang/invoke/MethodHandle" ∧ yX3_constant.cls ≠ "java/lang/invoke/VarHandle" ∧ (parseMethodDescriptor yX3_constant.desc).map (fun d => d.parameters.length) = some 2 := ⟨rfl, kS_X3_constant⟩
set_option maxHeartbeats 4000000 in
set_option maxRecDepth 100000 in
theorem c_X3_constant (l : Launch) (D : va_G) (h : Nat) (q1 : Nat) (q2 : Nat) (cA : ClassId) (cB : ClassId) (cd : Int32) (ct : Int32) (tf : Nat → Int32) (ff : Nat → Int64) (td : Int32) (an : Bool) (qb : Int32) (pa : Bool) (aT : Int32) (aF : Int64) (dg : Int64) (fi : Int32) (lo : Bool) (wh : Int32) (rg : Int32) (sz : Nat) : Met l yX3_constant wsX3_constant ({ frames := 1, cells := 0, slots := 0, locals := 20 } : Room) (va_Pc [.ref h, .int wh, .int rg] (MMB D (tRS cA cB) (cMd h q1 q2 cA cB cd ct tf ff td an qb pa aT aF dg fi lo) sz)) (va_Qv (fun (_ : Unit) => True) (fun _ t => ∃ (w_cd : Int32) (w_tf : Nat → Int32) (w_ff : Nat → Int64), M_constant tf ff wh rg = (w_cd, w_tf, w_ff) ∧ va_P D vwCl (cMd h q1 q2 cA cB w_cd ct w_tf w_ff td an qb pa aT aF dg fi lo) t.heap ∧ va_D (va_A (cMd h q1 q2 cA cB cd ct tf ff td an qb pa aT aF dg fi lo) sz) (cMd h q1 q2 cA cB w_cd ct w_tf w_ff td an qb pa aT aF dg fi lo)) (va_A (cMd h q1 q2 cA cB cd ct tf ff td an qb pa aT aF dg fi lo) sz)) 0 0 (va_A (cMd h q1 q2 cA cB cd ct tf ff td an qb pa aT aF dg fi lo) sz) := by
  refine Met.ofW (cc := cX3_constant) (maxL := 3) (ret := none) (by decide) rfl ?_
  intro p e s m args below meth c s₁ B hml hv
  obtain ⟨rfl, hsz, hP, hK, hD0⟩ := hv
  have hx := B.exec
  have hb := B.bytes
  have hr := B.returns
  have hts := atoms_spec (ws := wsX3_constant) B.pre
  have hown : s.vm.findClass RX3 = some m.cls := findClass_of_methodNamed B.named
  have hlocks := B.notSynchronized
  have w_1 := hts (.fieldLink RX3 21 "RealStepsModel" "code" "I") (by decide +kernel)
  have in_X3 : ∀ w ∈ wsX30, w ∈ wsX3_constant := by decide +kernel
  have w_3 := hts (.fieldLink RX3 13 "RealStepsModel" "top" "[I") (by decide +kernel)
  have w_4 := hts (.fieldLink RX3 17 "RealStepsModel" "fraction" "[J") (by decide +kernel)
  have w_5 := hts (.constantLong RX3 44 (-5660435428506895956)) (by decide +kernel)
  have w_6 := hts (.constantLong RX3 42 (-7340697496662837351)) (by decide +kernel)
  have w_7 := hts (.constantLong RX3 40 (-3958705157555305931)) (by decide +kernel)
  have w_8 := hts (.constantLong RX3 38 (-5140230975865229124)) (by decide +kernel)
  have w_9 := hts (.constantLong RX3 36 (-3127054724296373506)) (by decide +kernel)
  have w_10 := hts (.constantLong RX3 34 (-9223372036854775808)) (by decide +kernel)
  subst hsz
  have hD := hD0.self (sz := s.heap.size)
  generalize hAe : va_A (cMd h q1 q2 cA cB cd ct tf ff td an qb pa aT aF dg fi lo) s.heap.size = A at hD ⊢
  have hA : ∀ q : Nat, s.heap.size ≤ q → A q := fun q h => by rw [← hAe]; exact Or.inr h
  have hS : va_S A s.heap s.heap [] := va_S.rf
  have hP : va_P D vwCl (cMd h q1 q2 cA cB cd ct tf ff td an qb pa aT aF dg fi lo) s.heap := hP
  have hl := lv_entry ([.ref h, .int wh, .int rg]) (n := 3) (Nat.le_of_ble_eq_true rfl)
  rw [lg_entry_eq]
  generalize (lg_sl ([.ref h, .int wh, .int rg]) ++ List.replicate (3 - (lg_sl ([.ref h, .int wh, .int rg])).length) Slot.unset).toArray = ls at hl ⊢
  have hl : lv_has ls 3 [(0, .ref h), (1, .int wh), (2, .int rg)] := hl
  refine lv_aload_n hx hb dX3_constant_0 rfl (lv_at hl 0 rfl) ?_
  refine lv_iload_n hx hb dX3_constant_1 rfl (lv_at hl 2 rfl) ?_
  refine vp_callSi (va_cr (va_runS (As := [.int rg]) (rest := [.ref h]) ⟨hx, hb, hml, hown, hts⟩ (c_X3_none l rg) (va_cwS 1 hts gX3_constant_X3_none rfl rfl rfl kS_X3_none ⟨Nat.le_of_ble_eq_true rfl, Nat.le_of_ble_eq_true rfl⟩) ⟨TB.blind, TB.pre⟩ rfl rfl hl.1 rfl (lv_room (Nat.le_of_ble_eq_true rfl)) dX3_constant_2 ⟨Nat.le_of_ble_eq_true rfl, Nat.le_of_ble_eq_true rfl⟩)) (fun r9 e9 => ?_)
  rw [e9]
  refine lv_if_eq (tgt := 12) hx hb dX3_constant_5 (by decide) (fun c_1 => ?_) (fun c_1 => ?_)
  · refine lv_iload_n hx hb dX3_constant_12 rfl (lv_at hl 1 rfl) ?_
    refine q_cut (v := (if wh < 0 then (2 : Int32) else (if wh ≤ 6 then (0 : Int32) else (2 : Int32)))) (pcJ := 27) (rest := [.ref h]) (fun J => ?_) ?_
    · refine lv_if_lt (tgt := 22) hx hb dX3_constant_13 (by decide) (fun c_2 => ?_) (fun c_2 => ?_)
      · refine lv_iconst (v := 2) hx hb dX3_constant_22 (by decide) ?_
        refine lv_goto (tgt := 27) hx hb dX3_constant_23 (by decide) ?_
        exact J _ (by rw [if_pos c_2]; try rfl)
      · refine lv_iload_n hx hb dX3_constant_16 rfl (lv_at hl 1 rfl) ?_
        refine lv_bipush (v := 6) hx hb dX3_constant_17 (by decide) ?_
        refine lv_icmp_le (tgt := 26) hx hb dX3_constant_19 (by decide) (fun c_3 => ?_) (fun c_3 => ?_)
        · refine lv_iconst (v := 0) hx hb dX3_constant_26 (by decide) ?_
          exact J _ (by rw [if_neg c_2, if_pos c_3]; try rfl)
        · refine lv_iconst (v := 2) hx hb dX3_constant_22 (by decide) ?_
          refine lv_goto (tgt := 27) hx hb dX3_constant_23 (by decide) ?_
          exact J _ (by rw [if_neg c_2, if_neg c_3]; try rfl)
    refine va_put (v := .int (if wh < 0 then (2 : Int32) else (if wh ≤ 6 then (0 : Int32) else (2 : Int32)))) (ty := .int) (C := RX3) (T := TX3) (N := 13) hx hb hts in_X3 tyX3 tyX3_ok nmX3 hown hK hP hD hS 0 rfl rfl 0 (by decide) w_1 (fun _ h9 => h9) rfl (tyX3_ok 0 (by decide)) rfl rfl (Nat.le_of_ble_eq_true rfl) dX3_constant_27 (fun H locs hP hD hS => ?_)
    have hP : va_P D vwCl (cMd h q1 q2 cA cB (if wh < 0 then (2 : Int32) else (if wh ≤ 6 then (0 : Int32) else (2 : Int32))) ct tf ff td an qb pa aT aF dg fi lo) H := hP
    have hD : va_D A (cMd h q1 q2 cA cB (if wh < 0 then (2 : Int32) else (if wh ≤ 6 then (0 : Int32) else (2 : Int32))) ct tf ff td an qb pa aT aF dg fi lo) := hD
    refine lv_aload_n hx hb dX3_constant_30 rfl (lv_at hl 0 rfl) ?_
    refine va_get (v := .int (if wh < 0 then (2 : Int32) else (if wh ≤ 6 then (0 : Int32) else (2 : Int32)))) (C := RX3) (T := TX3) (N := 13) hx hb hts in_X3 hown hK hP 0 rfl rfl 0 (by decide) w_1 (fun _ h9 => h9) rfl dX3_constant_31 ?_
    refine lv_if_le (tgt := 38) hx hb dX3_constant_34 (by decide) (fun c_4 => ?_) (fun c_4 => ?_)
    · refine lv_aload_n hx hb dX3_constant_38 rfl (lv_at hl 0 rfl) ?_
      refine va_get (v := .ref q1) (C := RX3) (T := TX3) (N := 13) hx hb hts in_X3 hown hK hP 0 rfl rfl 2 (by decide) w_3 (fun _ h9 => h9) rfl dX3_constant_39 ?_
      refine lv_iload_n hx hb dX3_constant_42 rfl (lv_at hl 2 rfl) ?_
      refine lv_iload_n hx hb dX3_constant_43 rfl (lv_at hl 1 rfl) ?_
      refine q_cut (v := (if wh = 0 then (0 : Int32) else (if wh = 2 then (16383 + 1) else (if wh = 4 then (16383 + 1) else (if wh = 5 then (16383 + (-2)) else (if wh = 6 then (16383 + (-1)) else (16383 + 0))))))) (pcJ := 90) (rest := [.int rg, .ref q1]) (fun J => ?_) ?_
      · refine lv_if_ne (tgt := 51) hx hb dX3_constant_44 (by decide) (fun c_5 => ?_) (fun c_5 => ?_)
        · refine lv_sipush (v := 16383) hx hb dX3_constant_51 (by decide) ?_
          refine lv_iload_n hx hb dX3_constant_54 rfl (lv_at hl 1 rfl) ?_
          refine lv_iconst (v := 2) hx hb dX3_constant_55 (by decide) ?_
          refine lv_icmp_eq (tgt := 64) hx hb dX3_constant_56 (by decide) (fun c_6 => ?_) (fun c_6 => ?_)
          · refine lv_iconst (v := 1) hx hb dX3_constant_64 (by decide) ?_
            refine lv_goto (tgt := 89) hx hb dX3_constant_65 (by decide) ?_
            refine lv_iadd hx hb dX3_constant_89 ?_
            exact J _ (by rw [if_neg c_5, if_pos c_6]; try rfl)
          · refine lv_iload_n hx hb dX3_constant_59 rfl (lv_at hl 1 rfl) ?_
            refine lv_iconst (v := 4) hx hb dX3_constant_60 (by decide) ?_
            refine lv_icmp_ne (tgt := 68) hx hb dX3_constant_61 (by decide) (fun c_7 => ?_) (fun c_7 => ?_)
            · refine lv_iload_n hx hb dX3_constant_68 rfl (lv_at hl 1 rfl) ?_
              refine lv_iconst (v := 5) hx hb dX3_constant_69 (by decide) ?_
              refine lv_icmp_ne (tgt := 78) hx hb dX3_constant_70 (by decide) (fun c_8 => ?_) (fun c_8 => ?_)
              · refine lv_iload_n hx hb dX3_constant_78 rfl (lv_at hl 1 rfl) ?_
                refine lv_bipush (v := 6) hx hb dX3_constant_79 (by decide) ?_
                refine lv_icmp_ne (tgt := 88) hx hb dX3_constant_81 (by decide) (fun c_9 => ?_) (fun c_9 => ?_)
                · refine lv_iconst (v := 0) hx hb dX3_constant_88 (by decide) ?_
                  refine lv_iadd hx hb dX3_constant_89 ?_
                  exact J _ (by rw [if_neg c_5, if_neg c_6, if_neg c_7, if_neg c_8, if_neg c_9]; try rfl)
                · refine lv_iconst (v := (-1)) hx hb dX3_constant_84 (by decide) ?_
                  refine lv_goto (tgt := 89) hx hb dX3_constant_85 (by decide) ?_
                  refine lv_iadd hx hb dX3_constant_89 ?_
                  exact J _ (by rw [if_neg c_5, if_neg c_6, if_neg c_7, if_neg c_8, if_pos c_9]; try rfl)
              · refine lv_bipush (v := (-2)) hx hb dX3_constant_73 (by decide) ?_
                refine lv_goto (tgt := 89) hx hb dX3_constant_75 (by decide) ?_
                refine lv_iadd hx hb dX3_constant_89 ?_
                exact J _ (by rw [if_neg c_5, if_neg c_6, if_neg c_7, if_pos c_8]; try rfl)
            · refine lv_iconst (v := 1) hx hb dX3_constant_64 (by decide) ?_
              refine lv_goto (tgt := 89) hx hb dX3_constant_65 (by decide) ?_
              refine lv_iadd hx hb dX3_constant_89 ?_
              exact J _ (by rw [if_neg c_5, if_neg c_6, if_pos c_7]; try rfl)
        · refine lv_iconst (v := 0) hx hb dX3_constant_47 (by decide) ?_
          refine lv_goto (tgt := 90) hx hb dX3_constant_48 (by decide) ?_
          exact J _ (by rw [if_pos c_5]; try rfl)
      refine va_iast hx hb hK hP hD hS 1 0 rfl rfl (M_none_in c_1) dX3_constant_90 (fun H locs hP hD hS => ?_)
      have hP : va_P D vwCl (cMd h q1 q2 cA cB (if wh < 0 then (2 : Int32) else (if wh ≤ 6 then (0 : Int32) else (2 : Int32))) ct (upd tf rg.toNatClampNeg (if wh = 0 then (0 : Int32) else (if wh = 2 then (16383 + 1) else (if wh = 4 then (16383 + 1) else (if wh = 5 then (16383 + (-2)) else (if wh = 6 then (16383 + (-1)) else (16383 + 0))))))) ff td an qb pa aT aF dg fi lo) H := hP
      have hD : va_D A (cMd h q1 q2 cA cB (if wh < 0 then (2 : Int32) else (if wh ≤ 6 then (0 : Int32) else (2 : Int32))) ct (upd tf rg.toNatClampNeg (if wh = 0 then (0 : Int32) else (if wh = 2 then (16383 + 1) else (if wh = 4 then (16383 + 1) else (if wh = 5 then (16383 + (-2)) else (if wh = 6 then (16383 + (-1)) else (16383 + 0))))))) ff td an qb pa aT aF dg fi lo) := hD
      refine lv_aload_n hx hb dX3_constant_91 rfl (lv_at hl 0 rfl) ?_
      refine va_get (v := .ref q2) (C := RX3) (T := TX3) (N := 13) hx hb hts in_X3 hown hK hP 0 rfl rfl 3 (by decide) w_4 (fun _ h9 => h9) rfl dX3_constant_92 ?_
      refine lv_iload_n hx hb dX3_constant_95 rfl (lv_at hl 2 rfl) ?_
      refine lv_iload_n hx hb dX3_constant_96 rfl (lv_at hl 1 rfl) ?_
      refine q_cutL (v := (if wh = 0 then (0 : Int64) else (if wh = 1 then (-9223372036854775808 : Int64) else (if wh = 2 then (-3127054724296373506 : Int64) else (if wh = 3 then (-5140230975865229124 : Int64) else (if wh = 4 then (-3958705157555305931 : Int64) else (if wh = 5 then (-7340697496662837351 : Int64) else (-5660435428506895956 : Int64)))))))) (pcJ := 162) (rest := [.int rg, .ref q2]) (fun J => ?_) ?_
      · refine lv_if_ne (tgt := 104) hx hb dX3_constant_97 (by decide) (fun c_10 => ?_) (fun c_10 => ?_)
        · refine lv_iload_n hx hb dX3_constant_104 rfl (lv_at hl 1 rfl) ?_
          refine lv_iconst (v := 1) hx hb dX3_constant_105 (by decide) ?_
          refine lv_icmp_ne (tgt := 115) hx hb dX3_constant_106 (by decide) (fun c_11 => ?_) (fun c_11 => ?_)
          · refine lv_iload_n hx hb dX3_constant_115 rfl (lv_at hl 1 rfl) ?_
            refine lv_iconst (v := 2) hx hb dX3_constant_116 (by decide) ?_
            refine lv_icmp_ne (tgt := 126) hx hb dX3_constant_117 (by decide) (fun c_12 => ?_) (fun c_12 => ?_)
            · refine lv_iload_n hx hb dX3_constant_126 rfl (lv_at hl 1 rfl) ?_
              refine lv_iconst (v := 3) hx hb dX3_constant_127 (by decide) ?_
              refine lv_icmp_ne (tgt := 137) hx hb dX3_constant_128 (by decide) (fun c_13 => ?_) (fun c_13 => ?_)
              · refine lv_iload_n hx hb dX3_constant_137 rfl (lv_at hl 1 rfl) ?_
                refine lv_iconst (v := 4) hx hb dX3_constant_138 (by decide) ?_
                refine lv_icmp_ne (tgt := 148) hx hb dX3_constant_139 (by decide) (fun c_14 => ?_) (fun c_14 => ?_)
                · refine lv_iload_n hx hb dX3_constant_148 rfl (lv_at hl 1 rfl) ?_
                  refine lv_iconst (v := 5) hx hb dX3_constant_149 (by decide) ?_
                  refine lv_icmp_ne (tgt := 159) hx hb dX3_constant_150 (by decide) (fun c_15 => ?_) (fun c_15 => ?_)
                  · refine lv_ldc2 (v := (-5660435428506895956)) hx hb hown w_5 dX3_constant_159 ?_
                    exact J _ (by rw [if_neg c_10, if_neg c_11, if_neg c_12, if_neg c_13, if_neg c_14, if_neg c_15]; try rfl)
                  · refine lv_ldc2 (v := (-7340697496662837351)) hx hb hown w_6 dX3_constant_153 ?_
                    refine lv_goto (tgt := 162) hx hb dX3_constant_156 (by decide) ?_
                    exact J _ (by rw [if_neg c_10, if_neg c_11, if_neg c_12, if_neg c_13, if_neg c_14, if_pos c_15]; try rfl)
                · refine lv_ldc2 (v := (-3958705157555305931)) hx hb hown w_7 dX3_constant_142 ?_
                  refine lv_goto (tgt := 162) hx hb dX3_constant_145 (by decide) ?_
                  exact J _ (by rw [if_neg c_10, if_neg c_11, if_neg c_12, if_neg c_13, if_pos c_14]; try rfl)
              · refine lv_ldc2 (v := (-5140230975865229124)) hx hb hown w_8 dX3_constant_131 ?_
                refine lv_goto (tgt := 162) hx hb dX3_constant_134 (by decide) ?_
                exact J _ (by rw [if_neg c_10, if_neg c_11, if_neg c_12, if_pos c_13]; try rfl)
            · refine lv_ldc2 (v := (-3127054724296373506)) hx hb hown w_9 dX3_constant_120 ?_
              refine lv_goto (tgt := 162) hx hb dX3_constant_123 (by decide) ?_
              exact J _ (by rw [if_neg c_10, if_neg c_11, if_pos c_12]; try rfl)
          · refine lv_ldc2 (v := (-9223372036854775808)) hx hb hown w_10 dX3_constant_109 ?_
            refine lv_goto (tgt := 162) hx hb dX3_constant_112 (by decide) ?_
            exact J _ (by rw [if_neg c_10, if_pos c_11]; try rfl)
        · refine lv_lconst (v := 0) hx hb dX3_constant_100 (by decide) ?_
          refine lv_goto (tgt := 162) hx hb dX3_constant_101 (by decide) ?_
          exact J _ (by rw [if_pos c_10]; try rfl)
      refine va_last hx hb hK hP hD hS 2 1 rfl rfl (M_none_in c_1) dX3_constant_162 (fun H locs hP hD hS => ?_)
      have hP : va_P D vwCl (cMd h q1 q2 cA cB (if wh < 0 then (2 : Int32) else (if wh ≤ 6 then (0 : Int32) else (2 : Int32))) ct (upd tf rg.toNatClampNeg (if wh = 0 then (0 : Int32) else (if wh = 2 then (16383 + 1) else (if wh = 4 then (16383 + 1) else (if wh = 5 then (16383 + (-2)) else (if wh = 6 then (16383 + (-1)) else (16383 + 0))))))) (vp_updL ff rg.toNatClampNeg (if wh = 0 then (0 : Int64) else (if wh = 1 then (-9223372036854775808 : Int64) else (if wh = 2 then (-3127054724296373506 : Int64) else (if wh = 3 then (-5140230975865229124 : Int64) else (if wh = 4 then (-3958705157555305931 : Int64) else (if wh = 5 then (-7340697496662837351 : Int64) else (-5660435428506895956 : Int64)))))))) td an qb pa aT aF dg fi lo) H := hP
      have hD : va_D A (cMd h q1 q2 cA cB (if wh < 0 then (2 : Int32) else (if wh ≤ 6 then (0 : Int32) else (2 : Int32))) ct (upd tf rg.toNatClampNeg (if wh = 0 then (0 : Int32) else (if wh = 2 then (16383 + 1) else (if wh = 4 then (16383 + 1) else (if wh = 5 then (16383 + (-2)) else (if wh = 6 then (16383 + (-1)) else (16383 + 0))))))) (vp_updL ff rg.toNatClampNeg (if wh = 0 then (0 : Int64) else (if wh = 1 then (-9223372036854775808 : Int64) else (if wh = 2 then (-3127054724296373506 : Int64) else (if wh = 3 then (-5140230975865229124 : Int64) else (if wh = 4 then (-3958705157555305931 : Int64) else (if wh = 5 then (-7340697496662837351 : Int64) else (-5660435428506895956 : Int64)))))))) td an qb pa aT aF dg fi lo) := hD
      have hw : M_constant tf ff wh rg = ((if wh < 0 then (2 : Int32) else (if wh ≤ 6 then (0 : Int32) else (2 : Int32))), (upd tf rg.toNatClampNeg (if wh = 0 then (0 : Int32) else (if wh = 2 then (16383 + 1) else (if wh = 4 then (16383 + 1) else (if wh = 5 then (16383 + (-2)) else (if wh = 6 then (16383 + (-1)) else (16383 + 0))))))), (vp_updL ff rg.toNatClampNeg (if wh = 0 then (0 : Int64) else (if wh = 1 then (-9223372036854775808 : Int64) else (if wh = 2 then (-3127054724296373506 : Int64) else (if wh = 3 then (-5140230975865229124 : Int64) else (if wh = 4 then (-3958705157555305931 : Int64) else (if wh = 5 then (-7340697496662837351 : Int64) else (-5660435428506895956 : Int64))))))))) := by unfold M_constant; rw [if_pos c_1, if_pos c_4]; try rfl
      exact W.vret hx hb hr (fun t9 ht hW => ⟨⟨(), rfl, trivial, ⟨(if wh < 0 then (2 : Int32) else (if wh ≤ 6 then (0 : Int32) else (2 : Int32))), (upd tf rg.toNatClampNeg (if wh = 0 then (0 : Int32) else (if wh = 2 then (16383 + 1) else (if wh = 4 then (16383 + 1) else (if wh = 5 then (16383 + (-2)) else (if wh = 6 then (16383 + (-1)) else (16383 + 0))))))), (vp_updL ff rg.toNatClampNeg (if wh = 0 then (0 : Int64) else (if wh = 1 then (-9223372036854775808 : Int64) else (if wh = 2 then (-3127054724296373506 : Int64) else (if wh = 3 then (-5140230975865229124 : Int64) else (if wh = 4 then (-3958705157555305931 : Int64) else (if wh = 5 then (-7340697496662837351 : Int64) else (-5660435428506895956 : Int64)))))))), hw, by rw [ht]; exact hP, hD⟩⟩, hS.F ht⟩) hS.2.2 dX3_constant_163
    · have hw : M_constant tf ff wh rg = ((if wh < 0 then (2 : Int32) else (if wh ≤ 6 then (0 : Int32) else (2 : Int32))), tf, ff) := by unfold M_constant; rw [if_pos c_1, if_neg c_4]; try rfl
      exact W.vret hx hb hr (fun t9 ht hW => ⟨⟨(), rfl, trivial, ⟨(if wh < 0 then (2 : Int32) else (if wh ≤ 6 then (0 : Int32) else (2 : Int32))), tf, ff, hw, by rw [ht]; exact hP, hD⟩⟩, hS.F ht⟩) hS.2.2 dX3_constant_37
  · refine lv_iconst (v := 1) hx hb dX3_constant_8 (by decide) ?_
    refine lv_goto (tgt := 27) hx hb dX3_constant_9 (by decide) ?_
    refine va_put (v := .int 1) (ty := .int) (C := RX3) (T := TX3) (N := 13) hx hb hts in_X3 tyX3 tyX3_ok nmX3 hown hK hP hD hS 0 rfl rfl 0 (by decide) w_1 (fun _ h9 => h9) rfl (tyX3_ok 0 (by decide)) rfl rfl (Nat.le_of_ble_eq_true rfl) dX3_constant_27 (fun H locs hP hD hS => ?_)
    have hP : va_P D vwCl (cMd h q1 q2 cA cB 1 ct tf ff td an qb pa aT aF dg fi lo) H := hP
    have hD : va_D A (cMd h q1 q2 cA cB 1 ct tf ff td an qb pa aT aF dg fi lo) := hD
    refine lv_aload_n hx hb dX3_constant_30 rfl (lv_at hl 0 rfl) ?_
    refine va_get (v := .int 1) (C := RX3) (T := TX3) (N := 13) hx hb hts in_X3 hown hK hP 0 rfl rfl 0 (by decide) w_1 (fun _ h9 => h9) rfl dX3_constant_31 ?_
    refine lv_if_le (tgt := 38) hx hb dX3_constant_34 (by decide) (fun c_16 => ?_) (fun c_16 => ?_)
    · exact absurd c_16 (by decide)
    · have hw : M_constant tf ff wh rg = (1, tf, ff) := by unfold M_constant; rw [if_neg c_1]; try rfl
      exact W.vret hx hb hr (fun t9 ht hW => ⟨⟨(), rfl, trivial, ⟨1, tf, ff, hw, by rw [ht]; exact hP, hD⟩⟩, hS.F ht⟩) hS.2.2 dX3_constant_37
def M_whole (tf : Nat → Int32) (ff : Nat → Int64) (ct : Int32) (td : Int32) (an : Bool) (aT : Int32) (aF : Int64) (lo : Bool) (ra : Int32) (rc : Int32) : Int32 × Int32 × (Nat → Int32) × (Nat → Int64) × Int32 × Bool × Int32 × Int64 × Bool :=
  if bI (M_none ra) = 0 then (if bI (M_none rc) = 0 then (tup2 (M_begin) (fun otd_5 oan_6 =>
        tup5 ((M_goesOn ct otd_5 oan_6 aT aF (tf ra.toNatClampNeg) (ff ra.toNatClampNeg) (-1) (tf (-1 : Int32).toNatClampNeg) (ff (-1 : Int32).toNatClampNeg) true)) (fun v_8 otd_9 oan_10 oaT_11 oaF_12 =>
          if bI v_8 = 0 then (tup2 ((M_keep tf ff oan_10 oaT_11 oaF_12 rc)) (fun otf_15 off_16 =>
              (otd_9, 0, otf_15, off_16, otd_9, oan_10, oaT_11, oaF_12, lo)))
          else if (M_kind (tf ra.toNatClampNeg) (ff ra.toNatClampNeg)) = 4 then (tup3 ((M_answer (tf ra.toNatClampNeg) (ff ra.toNatClampNeg))) (fun oan_54 oaT_55 oaF_56 =>
              tup2 ((M_keep tf ff oan_54 oaT_55 oaF_56 rc)) (fun otf_58 off_59 =>
                (otd_9, 0, otf_58, off_59, otd_9, oan_54, oaT_55, oaF_56, lo))))
          else if (M_unit (tf ra.toNatClampNeg)) < 0 then (tup2 ((M_rounded ct (ff ra.toNatClampNeg) (-(M_unit (tf ra.toNatClampNeg))) (M_minus (tf ra.toNatClampNeg)))) (fun v_20 olo_21 =>
              if bI olo_21 = 0 then (tup5 ((M_make ct otd_9 olo_21 (M_minus (tf ra.toNatClampNeg)) v_20 0)) (fun otd_24 oan_25 oaT_26 oaF_27 olo_28 =>
                  tup2 ((M_keep tf ff oan_25 oaT_26 oaF_27 rc)) (fun otf_30 off_31 =>
                    (otd_24, 0, otf_30, off_31, otd_24, oan_25, oaT_26, oaF_27, olo_28))))
              else (tup2 ((M_tell ct otd_9 32)) (fun v_33 otd_34 =>
                  tup5 ((M_make ct otd_34 olo_21 (M_minus (tf ra.toNatClampNeg)) v_20 0)) (fun otd_36 oan_37 oaT_38 oaF_39 olo_40 =>
                    tup2 ((M_keep tf ff oan_37 oaT_38 oaF_39 rc)) (fun otf_42 off_43 =>
                      (otd_36, 0, otf_42, off_43, otd_36, oan_37, oaT_38, oaF_39, olo_40)))))))
          else (tup5 ((M_make ct otd_9 lo (M_minus (tf ra.toNatClampNeg)) (ff ra.toNatClampNeg) (M_unit (tf ra.toNatClampNeg)))) (fun otd_45 oan_46 oaT_47 oaF_48 olo_49 =>
              tup2 ((M_keep tf ff oan_46 oaT_47 oaF_48 rc)) (fun otf_51 off_52 =>
                (otd_45, 0, otf_51, off_52, otd_45, oan_46, oaT_47, oaF_48, olo_49)))))))
    else (0, 1, tf, ff, td, an, aT, aF, lo))
  else (0, 1, tf, ff, td, an, aT, aF, lo)
theorem kS_X3_whole : yX3_whole.cls ≠ "java/lang/invoke/MethodHandle" ∧ yX3_whole.cls ≠ "java/lang/invoke/VarHandle" ∧ (parseMethodDescriptor yX3_whole.desc).map (fun d => d.parameters.length) = some 2 := by decide +kernel
theorem kV_X3_whole : yX3_whole.cls = RX3 ∧ yX3_whole.cls ≠ "java/lang/invoke/MethodHandle" ∧ yX3_whole.cls ≠ "java/lang/invoke/VarHandle" ∧ (parseMethodDescriptor yX3_whole.desc).map (fun d => d.parameters.length) = some 2 := ⟨rfl, kS_X3_whole⟩
set_option maxHeartbeats 4000000 in
set_option maxRecDepth 100000 in
theorem c_X3_whole (l : Launch) (D : va_G) (h : Nat) (q1 : Nat) (q2 : Nat) (cA : ClassId) (cB : ClassId) (cd : Int32) (ct : Int32) (tf : Nat → Int32) (ff : Nat → Int64) (td : Int32) (an : Bool) (qb : Int32) (pa : Bool) (aT : Int32) (aF : Int64) (dg : Int64) (fi : Int32) (lo : Bool) (ra : Int32) (rc : Int32) (sz : Nat) : Met l yX3_whole wsX3_whole ({ frames := 3, cells := 0, slots := 0, locals := 81 } : Room) (va_Pc [.ref h, .int ra, .int rc] (MMB D (tRS cA cB) (cMd h q1 q2 cA cB cd ct tf ff td an qb pa aT aF dg fi lo) sz)) (va_Qi (fun (r u : Int32) => r = u) (fun u t => ∃ (w_cd : Int32) (w_tf : Nat → Int32) (w_ff : Nat → Int64) (w_td : Int32) (w_an : Bool) (w_aT : Int32) (w_aF : Int64) (w_lo : Bool), M_whole tf ff ct td an aT aF lo ra rc = (u, w_cd, w_tf, w_ff, w_td, w_an, w_aT, w_aF, w_lo) ∧ va_P D vwCl (cMd h q1 q2 cA cB w_cd ct w_tf w_ff w_td w_an qb pa w_aT w_aF dg fi w_lo) t.heap ∧ va_D (va_A (cMd h q1 q2 cA cB cd ct tf ff td an qb pa aT aF dg fi lo) sz) (cMd h q1 q2 cA cB w_cd ct w_tf w_ff w_td w_an qb pa w_aT w_aF dg fi w_lo)) (va_A (cMd h q1 q2 cA cB cd ct tf ff td an qb pa aT aF dg fi lo) sz)) 0 0 (va_A (cMd h q1 q2 cA cB cd ct tf ff td an qb pa aT aF dg fi lo) sz) := by
  refine Met.ofW (cc := cX3_whole) (maxL := 5) (ret := (some .int)) (by decide) rfl ?_
  intro p e s m args below meth c s₁ B hml hv
  obtain ⟨rfl, hsz, hP, hK, hD0⟩ := hv
  have hx := B.exec
  have hb := B.bytes
  have hr := B.returns
  have hts := atoms_spec (ws := wsX3_whole) B.pre
  have hown : s.vm.findClass RX3 = some m.cls := findClass_of_methodNamed B.named
  have hlocks := B.notSynchronized
  have w_1 := hts (.fieldLink RX3 21 "RealStepsModel" "code" "I") (by decide +kernel)
  have in_X3 : ∀ w ∈ wsX30, w ∈ wsX3_whole := by decide +kernel
  have w_3 := hts (.fieldLink RX3 72 "RealStepsModel" "told" "I") (by decide +kernel)
  have w_4 := hts (.fieldLink RX3 17 "RealStepsModel" "fraction" "[J") (by decide +kernel)
  have w_5 := hts (.fieldLink RX3 98 "RealStepsModel" "lost" "Z") (by decide +kernel)
  have w_6 := hts (.fieldLink RX3 13 "RealStepsModel" "top" "[I") (by decide +kernel)
  subst hsz
  have hD := hD0.self (sz := s.heap.size)
  generalize hAe : va_A (cMd h q1 q2 cA cB cd ct tf ff td an qb pa aT aF dg fi lo) s.heap.size = A at hD ⊢
  have hA : ∀ q : Nat, s.heap.size ≤ q → A q := fun q h => by rw [← hAe]; exact Or.inr h
  have hS : va_S A s.heap s.heap [] := va_S.rf
  have hP : va_P D vwCl (cMd h q1 q2 cA cB cd ct tf ff td an qb pa aT aF dg fi lo) s.heap := hP
  have hl := lv_entry ([.ref h, .int ra, .int rc]) (n := 5) (Nat.le_of_ble_eq_true rfl)
  rw [lg_entry_eq]
  generalize (lg_sl ([.ref h, .int ra, .int rc]) ++ List.replicate (5 - (lg_sl ([.ref h, .int ra, .int rc])).length) Slot.unset).toArray = ls at hl ⊢
  have hl : lv_has ls 5 [(0, .ref h), (1, .int ra), (2, .int rc)] := hl
  refine lv_aload_n hx hb dX3_whole_0 rfl (lv_at hl 0 rfl) ?_
  refine lv_iload_n hx hb dX3_whole_1 rfl (lv_at hl 1 rfl) ?_
  refine vp_callSi (va_cr (va_runS (As := [.int ra]) (rest := [.ref h]) ⟨hx, hb, hml, hown, hts⟩ (c_X3_none l ra) (va_cwS 1 hts gX3_whole_X3_none rfl rfl rfl kS_X3_none ⟨Nat.le_of_ble_eq_true rfl, Nat.le_of_ble_eq_true rfl⟩) ⟨TB.blind, TB.pre⟩ rfl rfl hl.1 rfl (lv_room (Nat.le_of_ble_eq_true rfl)) dX3_whole_2 ⟨Nat.le_of_ble_eq_true rfl, Nat.le_of_ble_eq_true rfl⟩)) (fun r9 e9 => ?_)
  rw [e9]
  refine lv_if_ne (tgt := 15) hx hb dX3_whole_5 (by decide) (fun c_1 => ?_) (fun c_1 => ?_)
  · refine lv_iconst (v := 1) hx hb dX3_whole_15 (by decide) ?_
    refine lv_goto (tgt := 20) hx hb dX3_whole_16 (by decide) ?_
    refine va_put (v := .int 1) (ty := .int) (C := RX3) (T := TX3) (N := 13) hx hb hts in_X3 tyX3 tyX3_ok nmX3 hown hK hP hD hS 0 rfl rfl 0 (by decide) w_1 (fun _ h9 => h9) rfl (tyX3_ok 0 (by decide)) rfl rfl (Nat.le_of_ble_eq_true rfl) dX3_whole_20 (fun H locs hP hD hS => ?_)
    have hP : va_P D vwCl (cMd h q1 q2 cA cB 1 ct tf ff td an qb pa aT aF dg fi lo) H := hP
    have hD : va_D A (cMd h q1 q2 cA cB 1 ct tf ff td an qb pa aT aF dg fi lo) := hD
    refine lv_aload_n hx hb dX3_whole_23 rfl (lv_at hl 0 rfl) ?_
    refine va_get (v := .int 1) (C := RX3) (T := TX3) (N := 13) hx hb hts in_X3 hown hK hP 0 rfl rfl 0 (by decide) w_1 (fun _ h9 => h9) rfl dX3_whole_24 ?_
    refine lv_if_le (tgt := 32) hx hb dX3_whole_27 (by decide) (fun c_2 => ?_) (fun c_2 => ?_)
    · exact absurd c_2 (by decide)
    · refine lv_iconst (v := 0) hx hb dX3_whole_30 (by decide) ?_
      have hw : M_whole tf ff ct td an aT aF lo ra rc = (0, 1, tf, ff, td, an, aT, aF, lo) := by unfold M_whole; rw [if_neg c_1]; try rfl
      exact W.iret hx hb hr (fun t9 ht hW => ⟨⟨_, 0, rfl, rfl, ⟨1, tf, ff, td, an, aT, aF, lo, hw, by rw [ht]; exact hP, hD⟩⟩, hS.F ht⟩) hS.2.2 dX3_whole_31
  · refine lv_iload_n hx hb dX3_whole_8 rfl (lv_at hl 2 rfl) ?_
    refine vp_callSi (va_cr (va_runS (As := [.int rc]) (rest := [.ref h]) ⟨hx, hb, hml, hown, hts⟩ (c_X3_none l rc) (va_cwS 1 hts gX3_whole_X3_none rfl rfl rfl kS_X3_none ⟨Nat.le_of_ble_eq_true rfl, Nat.le_of_ble_eq_true rfl⟩) ⟨TB.blind, TB.pre⟩ rfl rfl hl.1 rfl (lv_room (Nat.le_of_ble_eq_true rfl)) dX3_whole_9 ⟨Nat.le_of_ble_eq_true rfl, Nat.le_of_ble_eq_true rfl⟩)) (fun r9 e9 => ?_)
    rw [e9]
    refine lv_if_eq (tgt := 19) hx hb dX3_whole_12 (by decide) (fun c_3 => ?_) (fun c_3 => ?_)
    · refine lv_iconst (v := 0) hx hb dX3_whole_19 (by decide) ?_
      refine va_put (v := .int 0) (ty := .int) (C := RX3) (T := TX3) (N := 13) hx hb hts in_X3 tyX3 tyX3_ok nmX3 hown hK hP hD hS 0 rfl rfl 0 (by decide) w_1 (fun _ h9 => h9) rfl (tyX3_ok 0 (by decide)) rfl rfl (Nat.le_of_ble_eq_true rfl) dX3_whole_20 (fun H locs hP hD hS => ?_)
      have hP : va_P D vwCl (cMd h q1 q2 cA cB 0 ct tf ff td an qb pa aT aF dg fi lo) H := hP
      have hD : va_D A (cMd h q1 q2 cA cB 0 ct tf ff td an qb pa aT aF dg fi lo) := hD
      refine lv_aload_n hx hb dX3_whole_23 rfl (lv_at hl 0 rfl) ?_
      refine va_get (v := .int 0) (C := RX3) (T := TX3) (N := 13) hx hb hts in_X3 hown hK hP 0 rfl rfl 0 (by decide) w_1 (fun _ h9 => h9) rfl dX3_whole_24 ?_
      refine lv_if_le (tgt := 32) hx hb dX3_whole_27 (by decide) (fun c_4 => ?_) (fun c_4 => ?_)
      · refine lv_aload_n hx hb dX3_whole_32 rfl (lv_at hl 0 rfl) ?_
        have hFc := va_free (wc := cMd h q1 q2 cA cB 0 ct tf ff td an qb pa aT aF dg fi lo) hD hS hA [0, 1, 2] rfl
        refine va_callv (va_runV (As := []) (rest := []) ⟨hx, hb, hml, hown, hts⟩ (c_X3_begin l D h q1 q2 cA cB 0 ct tf ff td an qb pa aT aF dg fi lo H.size) (cwV 0 hts gX3_whole_X3_begin rfl rfl rfl kV_X3_begin ⟨Nat.le_of_ble_eq_true rfl, Nat.le_of_ble_eq_true rfl⟩) ⟨MMB.blind, va_recv hK hP (ci := 2) (q0 := 0) rfl rfl, MMB.pre hK hP hD⟩ rfl rfl hl.1 rfl (lv_room (Nat.le_of_ble_eq_true rfl)) dX3_whole_33 ⟨Nat.le_of_ble_eq_true rfl, Nat.le_of_ble_eq_true rfl⟩) hS (fun q _ h9 => hFc q h9) hFc (fun u9 t9 H locs ht hvm hw hB hz1 hk1 hS => ?_)
        obtain ⟨otd_5, oan_6, e_7, hP, hD9⟩ := hB
        rw [ht] at hP
        have hD : va_D A (cMd h q1 q2 cA cB 0 ct tf ff otd_5 oan_6 qb pa aT aF dg fi lo) := hD9.weaken (fun _ _ _ h => hFc _ h)
        refine lv_aload_n hx hb dX3_whole_36 rfl (lv_at hl 0 rfl) ?_
        refine lv_iload_n hx hb dX3_whole_37 rfl (lv_at hl 1 rfl) ?_
        refine lv_iconst (v := (-1)) hx hb dX3_whole_38 (by decide) ?_
        refine lv_iconst (v := 1) hx hb dX3_whole_39 (by decide) ?_
        have hFc := va_free (wc := cMd h q1 q2 cA cB 0 ct tf ff otd_5 oan_6 qb pa aT aF dg fi lo) hD hS hA [0, 1, 2] rfl
        refine va_calli (va_runV (As := [.int ra, .int (-1), .int (bI true)]) (rest := []) ⟨hx, hb, hml, hown, hts⟩ (c_X3_goesOn l D h q1 q2 cA cB 0 ct tf ff otd_5 oan_6 qb pa aT aF dg fi lo ra (-1) true H.size (M_none_in c_1) (fun h => absurd (by decide : ((-1) : Int32) < 0) h)) (cwV 3 hts gX3_whole_X3_goesOn rfl rfl rfl kV_X3_goesOn ⟨Nat.le_of_ble_eq_true rfl, Nat.le_of_ble_eq_true rfl⟩) ⟨MMB.blind, va_recv hK hP (ci := 2) (q0 := 0) rfl rfl, MMB.pre hK hP hD⟩ rfl rfl hl.1 rfl (lv_room (Nat.le_of_ble_eq_true rfl)) dX3_whole_40 ⟨Nat.le_of_ble_eq_true rfl, Nat.le_of_ble_eq_true rfl⟩) hS (fun q _ h9 => hFc q h9) hFc (fun r9 v_8 t9 H locs ht hvm hw hB hz1 hk1 hS => ?_)
        obtain rfl := hw
        obtain ⟨otd_9, oan_10, oaT_11, oaF_12, e_13, hP, hD9⟩ := hB
        rw [ht] at hP
        have hD : va_D A (cMd h q1 q2 cA cB 0 ct tf ff otd_9 oan_10 qb pa oaT_11 oaF_12 dg fi lo) := hD9.weaken (fun _ _ _ h => hFc _ h)
        refine lv_if_eq (tgt := 152) hx hb dX3_whole_43 (by decide) (fun c_14 => ?_) (fun c_14 => ?_)
        · refine lv_aload_n hx hb dX3_whole_152 rfl (lv_at hl 0 rfl) ?_
          refine lv_iload_n hx hb dX3_whole_153 rfl (lv_at hl 2 rfl) ?_
          have hFc := va_free (wc := cMd h q1 q2 cA cB 0 ct tf ff otd_9 oan_10 qb pa oaT_11 oaF_12 dg fi lo) hD hS hA [0, 1, 2] rfl
          refine va_callv (va_runV (As := [.int rc]) (rest := []) ⟨hx, hb, hml, hown, hts⟩ (c_X3_keep l D h q1 q2 cA cB 0 ct tf ff otd_9 oan_10 qb pa oaT_11 oaF_12 dg fi lo rc H.size (M_none_in c_3)) (cwV 1 hts gX3_whole_X3_keep rfl rfl rfl kV_X3_keep ⟨Nat.le_of_ble_eq_true rfl, Nat.le_of_ble_eq_true rfl⟩) ⟨MMB.blind, va_recv hK hP (ci := 2) (q0 := 0) rfl rfl, MMB.pre hK hP hD⟩ rfl rfl hl.1 rfl (lv_room (Nat.le_of_ble_eq_true rfl)) dX3_whole_154 ⟨Nat.le_of_ble_eq_true rfl, Nat.le_of_ble_eq_true rfl⟩) hS (fun q _ h9 => hFc q h9) hFc (fun u9 t9 H locs ht hvm hw hB hz1 hk1 hS => ?_)
          obtain ⟨otf_15, off_16, e_17, hP, hD9⟩ := hB
          rw [ht] at hP
          have hD : va_D A (cMd h q1 q2 cA cB 0 ct otf_15 off_16 otd_9 oan_10 qb pa oaT_11 oaF_12 dg fi lo) := hD9.weaken (fun _ _ _ h => hFc _ h)
          refine lv_aload_n hx hb dX3_whole_157 rfl (lv_at hl 0 rfl) ?_
          refine va_get (v := .int otd_9) (C := RX3) (T := TX3) (N := 13) hx hb hts in_X3 hown hK hP 0 rfl rfl 4 (by decide) w_3 (fun _ h9 => h9) rfl dX3_whole_158 ?_
          have hw : M_whole tf ff ct td an aT aF lo ra rc = (otd_9, 0, otf_15, off_16, otd_9, oan_10, oaT_11, oaF_12, lo) := by unfold M_whole; rw [if_pos c_1, if_pos c_3, tup2_e e_7, tup5_e e_13, if_pos c_14, tup2_e e_17]; try rfl
          exact W.iret hx hb hr (fun t9 ht hW => ⟨⟨_, otd_9, rfl, rfl, ⟨0, otf_15, off_16, otd_9, oan_10, oaT_11, oaF_12, lo, hw, by rw [ht]; exact hP, hD⟩⟩, hS.F ht⟩) hS.2.2 dX3_whole_161
        · refine lv_aload_n hx hb dX3_whole_46 rfl (lv_at hl 0 rfl) ?_
          refine lv_iload_n hx hb dX3_whole_47 rfl (lv_at hl 1 rfl) ?_
          refine vp_callSi (va_cr (va_runV (As := [.int ra]) (rest := []) ⟨hx, hb, hml, hown, hts⟩ (c_X3_kind l D h q1 q2 cA cB 0 ct tf ff otd_9 oan_10 qb pa oaT_11 oaF_12 dg fi lo ra (M_none_in c_1)) (cwV 1 hts gX3_whole_X3_kind rfl rfl rfl kV_X3_kind ⟨Nat.le_of_ble_eq_true rfl, Nat.le_of_ble_eq_true rfl⟩) ⟨PB.blind, va_recv hK hP (ci := 2) (q0 := 0) rfl rfl, PB.pre hK hP⟩ rfl rfl hl.1 rfl (lv_room (Nat.le_of_ble_eq_true rfl)) dX3_whole_48 ⟨Nat.le_of_ble_eq_true rfl, Nat.le_of_ble_eq_true rfl⟩)) (fun r9 e9 => ?_)
          rw [e9]
          refine lv_iconst (v := 4) hx hb dX3_whole_51 (by decide) ?_
          refine lv_icmp_ne (tgt := 74) hx hb dX3_whole_52 (by decide) (fun c_18 => ?_) (fun c_18 => ?_)
          · refine lv_aload_n hx hb dX3_whole_74 rfl (lv_at hl 0 rfl) ?_
            refine lv_iload_n hx hb dX3_whole_75 rfl (lv_at hl 1 rfl) ?_
            refine vp_callSi (va_cr (va_runV (As := [.int ra]) (rest := []) ⟨hx, hb, hml, hown, hts⟩ (c_X3_unit l D h q1 q2 cA cB 0 ct tf ff otd_9 oan_10 qb pa oaT_11 oaF_12 dg fi lo ra (M_none_in c_1)) (cwV 1 hts gX3_whole_X3_unit rfl rfl rfl kV_X3_unit ⟨Nat.le_of_ble_eq_true rfl, Nat.le_of_ble_eq_true rfl⟩) ⟨PB.blind, va_recv hK hP (ci := 2) (q0 := 0) rfl rfl, PB.pre hK hP⟩ rfl rfl hl.1 rfl (lv_room (Nat.le_of_ble_eq_true rfl)) dX3_whole_76 ⟨Nat.le_of_ble_eq_true rfl, Nat.le_of_ble_eq_true rfl⟩)) (fun r9 e9 => ?_)
            rw [e9]
            refine lv_if_lt (tgt := 105) hx hb dX3_whole_79 (by decide) (fun c_19 => ?_) (fun c_19 => ?_)
            · refine lv_aload_n hx hb dX3_whole_105 rfl (lv_at hl 0 rfl) ?_
              refine lv_aload_n hx hb dX3_whole_106 rfl (lv_at hl 0 rfl) ?_
              refine va_get (v := .ref q2) (C := RX3) (T := TX3) (N := 13) hx hb hts in_X3 hown hK hP 0 rfl rfl 3 (by decide) w_4 (fun _ h9 => h9) rfl dX3_whole_107 ?_
              refine lv_iload_n hx hb dX3_whole_110 rfl (lv_at hl 1 rfl) ?_
              refine va_lald hx hb hK hP 2 1 rfl rfl (M_none_in c_1) dX3_whole_111 ?_
              refine lv_aload_n hx hb dX3_whole_112 rfl (lv_at hl 0 rfl) ?_
              refine lv_iload_n hx hb dX3_whole_113 rfl (lv_at hl 1 rfl) ?_
              refine vp_callSi (va_cr (va_runV (As := [.int ra]) (rest := [.long (ff ra.toNatClampNeg), .ref h]) ⟨hx, hb, hml, hown, hts⟩ (c_X3_unit l D h q1 q2 cA cB 0 ct tf ff otd_9 oan_10 qb pa oaT_11 oaF_12 dg fi lo ra (M_none_in c_1)) (cwV 1 hts gX3_whole_X3_unit rfl rfl rfl kV_X3_unit ⟨Nat.le_of_ble_eq_true rfl, Nat.le_of_ble_eq_true rfl⟩) ⟨PB.blind, va_recv hK hP (ci := 2) (q0 := 0) rfl rfl, PB.pre hK hP⟩ rfl rfl hl.1 rfl (lv_room (Nat.le_of_ble_eq_true rfl)) dX3_whole_114 ⟨Nat.le_of_ble_eq_true rfl, Nat.le_of_ble_eq_true rfl⟩)) (fun r9 e9 => ?_)
              rw [e9]
              refine lv_ineg hx hb dX3_whole_117 ?_
              refine lv_aload_n hx hb dX3_whole_118 rfl (lv_at hl 0 rfl) ?_
              refine lv_iload_n hx hb dX3_whole_119 rfl (lv_at hl 1 rfl) ?_
              refine vp_callSi (va_cr (va_runV (As := [.int ra]) (rest := [.int (-(M_unit (tf ra.toNatClampNeg))), .long (ff ra.toNatClampNeg), .ref h]) ⟨hx, hb, hml, hown, hts⟩ (c_X3_minus l D h q1 q2 cA cB 0 ct tf ff otd_9 oan_10 qb pa oaT_11 oaF_12 dg fi lo ra (M_none_in c_1)) (cwV 1 hts gX3_whole_X3_minus rfl rfl rfl kV_X3_minus ⟨Nat.le_of_ble_eq_true rfl, Nat.le_of_ble_eq_true rfl⟩) ⟨PB.blind, va_recv hK hP (ci := 2) (q0 := 0) rfl rfl, PB.pre hK hP⟩ rfl rfl hl.1 rfl (lv_room (Nat.le_of_ble_eq_true rfl)) dX3_whole_120 ⟨Nat.le_of_ble_eq_true rfl, Nat.le_of_ble_eq_true rfl⟩)) (fun r9 e9 => ?_)
              rw [e9]
              have hFc := va_free (wc := cMd h q1 q2 cA cB 0 ct tf ff otd_9 oan_10 qb pa oaT_11 oaF_12 dg fi lo) hD hS hA [0, 1, 2] rfl
              refine va_calll (va_runV (As := [.long (ff ra.toNatClampNeg), .int (-(M_unit (tf ra.toNatClampNeg))), .int (bI (M_minus (tf ra.toNatClampNeg)))]) (rest := []) ⟨hx, hb, hml, hown, hts⟩ (c_X3_rounded l D h q1 q2 cA cB 0 ct tf ff otd_9 oan_10 qb pa oaT_11 oaF_12 dg fi lo (ff ra.toNatClampNeg) (-(M_unit (tf ra.toNatClampNeg))) (M_minus (tf ra.toNatClampNeg)) H.size) (cwV 3 hts gX3_whole_X3_rounded rfl rfl rfl kV_X3_rounded ⟨Nat.le_of_ble_eq_true rfl, Nat.le_of_ble_eq_true rfl⟩) ⟨MMB.blind, va_recv hK hP (ci := 2) (q0 := 0) rfl rfl, MMB.pre hK hP hD⟩ rfl rfl hl.1 rfl (lv_room (Nat.le_of_ble_eq_true rfl)) dX3_whole_123 ⟨Nat.le_of_ble_eq_true rfl, Nat.le_of_ble_eq_true rfl⟩) hS (fun q _ h9 => hFc q h9) hFc (fun v_20 u9 t9 H locs ht hvm hw hB hz1 hk1 hS => ?_)
              obtain rfl := hw
              obtain ⟨olo_21, e_22, hP, hD9⟩ := hB
              rw [ht] at hP
              have hD : va_D A (cMd h q1 q2 cA cB 0 ct tf ff otd_9 oan_10 qb pa oaT_11 oaF_12 dg fi olo_21) := hD9.weaken (fun _ _ _ h => hFc _ h)
              refine lv_lstore_n (lv' := [(3, .long v_20), (0, .ref h), (1, .int ra), (2, .int rc)]) hx hb dX3_whole_126 rfl hl (by decide) rfl (fun ls hl => ?_)
              refine lv_aload_n hx hb dX3_whole_127 rfl (lv_at hl 1 rfl) ?_
              refine va_get (v := .int (bI olo_21)) (C := RX3) (T := TX3) (N := 13) hx hb hts in_X3 hown hK hP 0 rfl rfl 12 (by decide) w_5 (fun _ h9 => h9) rfl dX3_whole_128 ?_
              refine lv_if_eq (tgt := 141) hx hb dX3_whole_131 (by decide) (fun c_23 => ?_) (fun c_23 => ?_)
              · refine lv_aload_n hx hb dX3_whole_141 rfl (lv_at hl 1 rfl) ?_
                refine lv_aload_n hx hb dX3_whole_142 rfl (lv_at hl 1 rfl) ?_
                refine lv_iload_n hx hb dX3_whole_143 rfl (lv_at hl 2 rfl) ?_
                refine vp_callSi (va_cr (va_runV (As := [.int ra]) (rest := [.ref h]) ⟨hx, hb, hml, hown, hts⟩ (c_X3_minus l D h q1 q2 cA cB 0 ct tf ff otd_9 oan_10 qb pa oaT_11 oaF_12 dg fi olo_21 ra (M_none_in c_1)) (cwV 1 hts gX3_whole_X3_minus rfl rfl rfl kV_X3_minus ⟨Nat.le_of_ble_eq_true rfl, Nat.le_of_ble_eq_true rfl⟩) ⟨PB.blind, va_recv hK hP (ci := 2) (q0 := 0) rfl rfl, PB.pre hK hP⟩ rfl rfl hl.1 rfl (lv_room (Nat.le_of_ble_eq_true rfl)) dX3_whole_144 ⟨Nat.le_of_ble_eq_true rfl, Nat.le_of_ble_eq_true rfl⟩)) (fun r9 e9 => ?_)
                rw [e9]
                refine lv_lload_n hx hb dX3_whole_147 rfl (lv_at hl 0 rfl) ?_
                refine lv_iconst (v := 0) hx hb dX3_whole_148 (by decide) ?_
                have hFc := va_free (wc := cMd h q1 q2 cA cB 0 ct tf ff otd_9 oan_10 qb pa oaT_11 oaF_12 dg fi olo_21) hD hS hA [0, 1, 2] rfl
                refine va_callv (va_runV (As := [.int (bI (M_minus (tf ra.toNatClampNeg))), .long v_20, .int 0]) (rest := []) ⟨hx, hb, hml, hown, hts⟩ (c_X3_make l D h q1 q2 cA cB 0 ct tf ff otd_9 oan_10 qb pa oaT_11 oaF_12 dg fi olo_21 (M_minus (tf ra.toNatClampNeg)) v_20 0 H.size) (cwV 3 hts gX3_whole_X3_make rfl rfl rfl kV_X3_make ⟨Nat.le_of_ble_eq_true rfl, Nat.le_of_ble_eq_true rfl⟩) ⟨MMB.blind, va_recv hK hP (ci := 2) (q0 := 0) rfl rfl, MMB.pre hK hP hD⟩ rfl rfl hl.1 rfl (lv_room (Nat.le_of_ble_eq_true rfl)) dX3_whole_149 ⟨Nat.le_of_ble_eq_true rfl, Nat.le_of_ble_eq_true rfl⟩) hS (fun q _ h9 => hFc q h9) hFc (fun u9 t9 H locs ht hvm hw hB hz1 hk1 hS => ?_)
                obtain ⟨otd_24, oan_25, oaT_26, oaF_27, olo_28, e_29, hP, hD9⟩ := hB
                rw [ht] at hP
                have hD : va_D A (cMd h q1 q2 cA cB 0 ct tf ff otd_24 oan_25 qb pa oaT_26 oaF_27 dg fi olo_28) := hD9.weaken (fun _ _ _ h => hFc _ h)
                refine lv_aload_n hx hb dX3_whole_152 rfl (lv_at hl 1 rfl) ?_
                refine lv_iload_n hx hb dX3_whole_153 rfl (lv_at hl 3 rfl) ?_
                have hFc := va_free (wc := cMd h q1 q2 cA cB 0 ct tf ff otd_24 oan_25 qb pa oaT_26 oaF_27 dg fi olo_28) hD hS hA [0, 1, 2] rfl
                refine va_callv (va_runV (As := [.int rc]) (rest := []) ⟨hx, hb, hml, hown, hts⟩ (c_X3_keep l D h q1 q2 cA cB 0 ct tf ff otd_24 oan_25 qb pa oaT_26 oaF_27 dg fi olo_28 rc H.size (M_none_in c_3)) (cwV 1 hts gX3_whole_X3_keep rfl rfl rfl kV_X3_keep ⟨Nat.le_of_ble_eq_true rfl, Nat.le_of_ble_eq_true rfl⟩) ⟨MMB.blind, va_recv hK hP (ci := 2) (q0 := 0) rfl rfl, MMB.pre hK hP hD⟩ rfl rfl hl.1 rfl (lv_room (Nat.le_of_ble_eq_true rfl)) dX3_whole_154 ⟨Nat.le_of_ble_eq_true rfl, Nat.le_of_ble_eq_true rfl⟩) hS (fun q _ h9 => hFc q h9) hFc (fun u9 t9 H locs ht hvm hw hB hz1 hk1 hS => ?_)
                obtain ⟨otf_30, off_31, e_32, hP, hD9⟩ := hB
                rw [ht] at hP
                have hD : va_D A (cMd h q1 q2 cA cB 0 ct otf_30 off_31 otd_24 oan_25 qb pa oaT_26 oaF_27 dg fi olo_28) := hD9.weaken (fun _ _ _ h => hFc _ h)
                refine lv_aload_n hx hb dX3_whole_157 rfl (lv_at hl 1 rfl) ?_
                refine va_get (v := .int otd_24) (C := RX3) (T := TX3) (N := 13) hx hb hts in_X3 hown hK hP 0 rfl rfl 4 (by decide) w_3 (fun _ h9 => h9) rfl dX3_whole_158 ?_
                have hw : M_whole tf ff ct td an aT aF lo ra rc = (otd_24, 0, otf_30, off_31, otd_24, oan_25, oaT_26, oaF_27, olo_28) := by unfold M_whole; rw [if_pos c_1, if_pos c_3, tup2_e e_7, tup5_e e_13, if_neg c_14, if_neg c_18, if_pos c_19, tup2_e e_22, if_pos c_23, tup5_e e_29, tup2_e e_32]; try rfl
                exact W.iret hx hb hr (fun t9 ht hW => ⟨⟨_, otd_24, rfl, rfl, ⟨0, otf_30, off_31, otd_24, oan_25, oaT_26, oaF_27, olo_28, hw, by rw [ht]; exact hP, hD⟩⟩, hS.F ht⟩) hS.2.2 dX3_whole_161
              · refine lv_aload_n hx hb dX3_whole_134 rfl (lv_at hl 1 rfl) ?_
                refine lv_bipush (v := 32) hx hb dX3_whole_135 (by decide) ?_
                have hFc := va_free (wc := cMd h q1 q2 cA cB 0 ct tf ff otd_9 oan_10 qb pa oaT_11 oaF_12 dg fi olo_21) hD hS hA [0, 1, 2] rfl
                refine va_calli (va_runV (As := [.int 32]) (rest := []) ⟨hx, hb, hml, hown, hts⟩ (c_X3_tell l D h q1 q2 cA cB 0 ct tf ff otd_9 oan_10 qb pa oaT_11 oaF_12 dg fi olo_21 32 H.size (by decide)) (cwV 1 hts gX3_whole_X3_tell rfl rfl rfl kV_X3_tell ⟨Nat.le_of_ble_eq_true rfl, Nat.le_of_ble_eq_true rfl⟩) ⟨MMB.blind, va_recv hK hP (ci := 2) (q0 := 0) rfl rfl, MMB.pre hK hP hD⟩ rfl rfl hl.1 rfl (lv_room (Nat.le_of_ble_eq_true rfl)) dX3_whole_137 ⟨Nat.le_of_ble_eq_true rfl, Nat.le_of_ble_eq_true rfl⟩) hS (fun q _ h9 => hFc q h9) hFc (fun r9 v_33 t9 H locs ht hvm hw hB hz1 hk1 hS => ?_)
                obtain rfl := hw
                obtain ⟨otd_34, e_35, hP, hD9⟩ := hB
                rw [ht] at hP
                have hD : va_D A (cMd h q1 q2 cA cB 0 ct tf ff otd_34 oan_10 qb pa oaT_11 oaF_12 dg fi olo_21) := hD9.weaken (fun _ _ _ h => hFc _ h)
                refine lv_pop hx hb dX3_whole_140 rfl ?_
                refine lv_aload_n hx hb dX3_whole_141 rfl (lv_at hl 1 rfl) ?_
                refine lv_aload_n hx hb dX3_whole_142 rfl (lv_at hl 1 rfl) ?_
                refine lv_iload_n hx hb dX3_whole_143 rfl (lv_at hl 2 rfl) ?_
                refine vp_callSi (va_cr (va_runV (As := [.int ra]) (rest := [.ref h]) ⟨hx, hb, hml, hown, hts⟩ (c_X3_minus l D h q1 q2 cA cB 0 ct tf ff otd_34 oan_10 qb pa oaT_11 oaF_12 dg fi olo_21 ra (M_none_in c_1)) (cwV 1 hts gX3_whole_X3_minus rfl rfl rfl kV_X3_minus ⟨Nat.le_of_ble_eq_true rfl, Nat.le_of_ble_eq_true rfl⟩) ⟨PB.blind, va_recv hK hP (ci := 2) (q0 := 0) rfl rfl, PB.pre hK hP⟩ rfl rfl hl.1 rfl (lv_room (Nat.le_of_ble_eq_true rfl)) dX3_whole_144 ⟨Nat.le_of_ble_eq_true rfl, Nat.le_of_ble_eq_true rfl⟩)) (fun r9 e9 => ?_)
                rw [e9]
                refine lv_lload_n hx hb dX3_whole_147 rfl (lv_at hl 0 rfl) ?_
                refine lv_iconst (v := 0) hx hb dX3_whole_148 (by decide) ?_
                have hFc := va_free (wc := cMd h q1 q2 cA cB 0 ct tf ff otd_34 oan_10 qb pa oaT_11 oaF_12 dg fi olo_21) hD hS hA [0, 1, 2] rfl
                refine va_callv (va_runV (As := [.int (bI (M_minus (tf ra.toNatClampNeg))), .long v_20, .int 0]) (rest := []) ⟨hx, hb, hml, hown, hts⟩ (c_X3_make l D h q1 q2 cA cB 0 ct tf ff otd_34 oan_10 qb pa oaT_11 oaF_12 dg fi olo_21 (M_minus (tf ra.toNatClampNeg)) v_20 0 H.size) (cwV 3 hts gX3_whole_X3_make rfl rfl rfl kV_X3_make ⟨Nat.le_of_ble_eq_true rfl, Nat.le_of_ble_eq_true rfl⟩) ⟨MMB.blind, va_recv hK hP (ci := 2) (q0 := 0) rfl rfl, MMB.pre hK hP hD⟩ rfl rfl hl.1 rfl (lv_room (Nat.le_of_ble_eq_true rfl)) dX3_whole_149 ⟨Nat.le_of_ble_eq_true rfl, Nat.le_of_ble_eq_true rfl⟩) hS (fun q _ h9 => hFc q h9) hFc (fun u9 t9 H locs ht hvm hw hB hz1 hk1 hS => ?_)
                obtain ⟨otd_36, oan_37, oaT_38, oaF_39, olo_40, e_41, hP, hD9⟩ := hB
                rw [ht] at hP
                have hD : va_D A (cMd h q1 q2 cA cB 0 ct tf ff otd_36 oan_37 qb pa oaT_38 oaF_39 dg fi olo_40) := hD9.weaken (fun _ _ _ h => hFc _ h)
                refine lv_aload_n hx hb dX3_whole_152 rfl (lv_at hl 1 rfl) ?_
                refine lv_iload_n hx hb dX3_whole_153 rfl (lv_at hl 3 rfl) ?_
                have hFc := va_free (wc := cMd h q1 q2 cA cB 0 ct tf ff otd_36 oan_37 qb pa oaT_38 oaF_39 dg fi olo_40) hD hS hA [0, 1, 2] rfl
                refine va_callv (va_runV (As := [.int rc]) (rest := []) ⟨hx, hb, hml, hown, hts⟩ (c_X3_keep l D h q1 q2 cA cB 0 ct tf ff otd_36 oan_37 qb pa oaT_38 oaF_39 dg fi olo_40 rc H.size (M_none_in c_3)) (cwV 1 hts gX3_whole_X3_keep rfl rfl rfl kV_X3_keep ⟨Nat.le_of_ble_eq_true rfl, Nat.le_of_ble_eq_true rfl⟩) ⟨MMB.blind, va_recv hK hP (ci := 2) (q0 := 0) rfl rfl, MMB.pre hK hP hD⟩ rfl rfl hl.1 rfl (lv_room (Nat.le_of_ble_eq_true rfl)) dX3_whole_154 ⟨Nat.le_of_ble_eq_true rfl, Nat.le_of_ble_eq_true rfl⟩) hS (fun q _ h9 => hFc q h9) hFc (fun u9 t9 H locs ht hvm hw hB hz1 hk1 hS => ?_)
                obtain ⟨otf_42, off_43, e_44, hP, hD9⟩ := hB
                rw [ht] at hP
                have hD : va_D A (cMd h q1 q2 cA cB 0 ct otf_42 off_43 otd_36 oan_37 qb pa oaT_38 oaF_39 dg fi olo_40) := hD9.weaken (fun _ _ _ h => hFc _ h)
                refine lv_aload_n hx hb dX3_whole_157 rfl (lv_at hl 1 rfl) ?_
                refine va_get (v := .int otd_36) (C := RX3) (T := TX3) (N := 13) hx hb hts in_X3 hown hK hP 0 rfl rfl 4 (by decide) w_3 (fun _ h9 => h9) rfl dX3_whole_158 ?_
                have hw : M_whole tf ff ct td an aT aF lo ra rc = (otd_36, 0, otf_42, off_43, otd_36, oan_37, oaT_38, oaF_39, olo_40) := by unfold M_whole; rw [if_pos c_1, if_pos c_3, tup2_e e_7, tup5_e e_13, if_neg c_14, if_neg c_18, if_pos c_19, tup2_e e_22, if_neg c_23, tup2_e e_35, tup5_e e_41, tup2_e e_44]; try rfl
                exact W.iret hx hb hr (fun t9 ht hW => ⟨⟨_, otd_36, rfl, rfl, ⟨0, otf_42, off_43, otd_36, oan_37, oaT_38, oaF_39, olo_40, hw, by rw [ht]; exact hP, hD⟩⟩, hS.F ht⟩) hS.2.2 dX3_whole_161
            · refine lv_aload_n hx hb dX3_whole_82 rfl (lv_at hl 0 rfl) ?_
              refine lv_aload_n hx hb dX3_whole_83 rfl (lv_at hl 0 rfl) ?_
              refine lv_iload_n hx hb dX3_whole_84 rfl (lv_at hl 1 rfl) ?_
              refine vp_callSi (va_cr (va_runV (As := [.int ra]) (rest := [.ref h]) ⟨hx, hb, hml, hown, hts⟩ (c_X3_minus l D h q1 q2 cA cB 0 ct tf ff otd_9 oan_10 qb pa oaT_11 oaF_12 dg fi lo ra (M_none_in c_1)) (cwV 1 hts gX3_whole_X3_minus rfl rfl rfl kV_X3_minus ⟨Nat.le_of_ble_eq_true rfl, Nat.le_of_ble_eq_true rfl⟩) ⟨PB.blind, va_recv hK hP (ci := 2) (q0 := 0) rfl rfl, PB.pre hK hP⟩ rfl rfl hl.1 rfl (lv_room (Nat.le_of_ble_eq_true rfl)) dX3_whole_85 ⟨Nat.le_of_ble_eq_true rfl, Nat.le_of_ble_eq_true rfl⟩)) (fun r9 e9 => ?_)
              rw [e9]
              refine lv_aload_n hx hb dX3_whole_88 rfl (lv_at hl 0 rfl) ?_
              refine va_get (v := .ref q2) (C := RX3) (T := TX3) (N := 13) hx hb hts in_X3 hown hK hP 0 rfl rfl 3 (by decide) w_4 (fun _ h9 => h9) rfl dX3_whole_89 ?_
              refine lv_iload_n hx hb dX3_whole_92 rfl (lv_at hl 1 rfl) ?_
              refine va_lald hx hb hK hP 2 1 rfl rfl (M_none_in c_1) dX3_whole_93 ?_
              refine lv_aload_n hx hb dX3_whole_94 rfl (lv_at hl 0 rfl) ?_
              refine lv_iload_n hx hb dX3_whole_95 rfl (lv_at hl 1 rfl) ?_
              refine vp_callSi (va_cr (va_runV (As := [.int ra]) (rest := [.long (ff ra.toNatClampNeg), .int (bI (M_minus (tf ra.toNatClampNeg))), .ref h]) ⟨hx, hb, hml, hown, hts⟩ (c_X3_unit l D h q1 q2 cA cB 0 ct tf ff otd_9 oan_10 qb pa oaT_11 oaF_12 dg fi lo ra (M_none_in c_1)) (cwV 1 hts gX3_whole_X3_unit rfl rfl rfl kV_X3_unit ⟨Nat.le_of_ble_eq_true rfl, Nat.le_of_ble_eq_true rfl⟩) ⟨PB.blind, va_recv hK hP (ci := 2) (q0 := 0) rfl rfl, PB.pre hK hP⟩ rfl rfl hl.1 rfl (lv_room (Nat.le_of_ble_eq_true rfl)) dX3_whole_96 ⟨Nat.le_of_ble_eq_true rfl, Nat.le_of_ble_eq_true rfl⟩)) (fun r9 e9 => ?_)
              rw [e9]
              have hFc := va_free (wc := cMd h q1 q2 cA cB 0 ct tf ff otd_9 oan_10 qb pa oaT_11 oaF_12 dg fi lo) hD hS hA [0, 1, 2] rfl
              refine va_callv (va_runV (As := [.int (bI (M_minus (tf ra.toNatClampNeg))), .long (ff ra.toNatClampNeg), .int (M_unit (tf ra.toNatClampNeg))]) (rest := []) ⟨hx, hb, hml, hown, hts⟩ (c_X3_make l D h q1 q2 cA cB 0 ct tf ff otd_9 oan_10 qb pa oaT_11 oaF_12 dg fi lo (M_minus (tf ra.toNatClampNeg)) (ff ra.toNatClampNeg) (M_unit (tf ra.toNatClampNeg)) H.size) (cwV 3 hts gX3_whole_X3_make rfl rfl rfl kV_X3_make ⟨Nat.le_of_ble_eq_true rfl, Nat.le_of_ble_eq_true rfl⟩) ⟨MMB.blind, va_recv hK hP (ci := 2) (q0 := 0) rfl rfl, MMB.pre hK hP hD⟩ rfl rfl hl.1 rfl (lv_room (Nat.le_of_ble_eq_true rfl)) dX3_whole_99 ⟨Nat.le_of_ble_eq_true rfl, Nat.le_of_ble_eq_true rfl⟩) hS (fun q _ h9 => hFc q h9) hFc (fun u9 t9 H locs ht hvm hw hB hz1 hk1 hS => ?_)
              obtain ⟨otd_45, oan_46, oaT_47, oaF_48, olo_49, e_50, hP, hD9⟩ := hB
              rw [ht] at hP
              have hD : va_D A (cMd h q1 q2 cA cB 0 ct tf ff otd_45 oan_46 qb pa oaT_47 oaF_48 dg fi olo_49) := hD9.weaken (fun _ _ _ h => hFc _ h)
              refine lv_goto (tgt := 152) hx hb dX3_whole_102 (by decide) ?_
              refine lv_aload_n hx hb dX3_whole_152 rfl (lv_at hl 0 rfl) ?_
              refine lv_iload_n hx hb dX3_whole_153 rfl (lv_at hl 2 rfl) ?_
              have hFc := va_free (wc := cMd h q1 q2 cA cB 0 ct tf ff otd_45 oan_46 qb pa oaT_47 oaF_48 dg fi olo_49) hD hS hA [0, 1, 2] rfl
              refine va_callv (va_runV (As := [.int rc]) (rest := []) ⟨hx, hb, hml, hown, hts⟩ (c_X3_keep l D h q1 q2 cA cB 0 ct tf ff otd_45 oan_46 qb pa oaT_47 oaF_48 dg fi olo_49 rc H.size (M_none_in c_3)) (cwV 1 hts gX3_whole_X3_keep rfl rfl rfl kV_X3_keep ⟨Nat.le_of_ble_eq_true rfl, Nat.le_of_ble_eq_true rfl⟩) ⟨MMB.blind, va_recv hK hP (ci := 2) (q0 := 0) rfl rfl, MMB.pre hK hP hD⟩ rfl rfl hl.1 rfl (lv_room (Nat.le_of_ble_eq_true rfl)) dX3_whole_154 ⟨Nat.le_of_ble_eq_true rfl, Nat.le_of_ble_eq_true rfl⟩) hS (fun q _ h9 => hFc q h9) hFc (fun u9 t9 H locs ht hvm hw hB hz1 hk1 hS => ?_)
              obtain ⟨otf_51, off_52, e_53, hP, hD9⟩ := hB
              rw [ht] at hP
              have hD : va_D A (cMd h q1 q2 cA cB 0 ct otf_51 off_52 otd_45 oan_46 qb pa oaT_47 oaF_48 dg fi olo_49) := hD9.weaken (fun _ _ _ h => hFc _ h)
              refine lv_aload_n hx hb dX3_whole_157 rfl (lv_at hl 0 rfl) ?_
              refine va_get (v := .int otd_45) (C := RX3) (T := TX3) (N := 13) hx hb hts in_X3 hown hK hP 0 rfl rfl 4 (by decide) w_3 (fun _ h9 => h9) rfl dX3_whole_158 ?_
              have hw : M_whole tf ff ct td an aT aF lo ra rc = (otd_45, 0, otf_51, off_52, otd_45, oan_46, oaT_47, oaF_48, olo_49) := by unfold M_whole; rw [if_pos c_1, if_pos c_3, tup2_e e_7, tup5_e e_13, if_neg c_14, if_neg c_18, if_neg c_19, tup5_e e_50, tup2_e e_53]; try rfl
              exact W.iret hx hb hr (fun t9 ht hW => ⟨⟨_, otd_45, rfl, rfl, ⟨0, otf_51, off_52, otd_45, oan_46, oaT_47, oaF_48, olo_49, hw, by rw [ht]; exact hP, hD⟩⟩, hS.F ht⟩) hS.2.2 dX3_whole_161
          · refine lv_aload_n hx hb dX3_whole_55 rfl (lv_at hl 0 rfl) ?_
            refine lv_aload_n hx hb dX3_whole_56 rfl (lv_at hl 0 rfl) ?_
            refine va_get (v := .ref q1) (C := RX3) (T := TX3) (N := 13) hx hb hts in_X3 hown hK hP 0 rfl rfl 2 (by decide) w_6 (fun _ h9 => h9) rfl dX3_whole_57 ?_
            refine lv_iload_n hx hb dX3_whole_60 rfl (lv_at hl 1 rfl) ?_
            refine va_iald hx hb hK hP 1 0 rfl rfl (M_none_in c_1) dX3_whole_61 ?_
            refine lv_aload_n hx hb dX3_whole_62 rfl (lv_at hl 0 rfl) ?_
            refine va_get (v := .ref q2) (C := RX3) (T := TX3) (N := 13) hx hb hts in_X3 hown hK hP 0 rfl rfl 3 (by decide) w_4 (fun _ h9 => h9) rfl dX3_whole_63 ?_
            refine lv_iload_n hx hb dX3_whole_66 rfl (lv_at hl 1 rfl) ?_
            refine va_lald hx hb hK hP 2 1 rfl rfl (M_none_in c_1) dX3_whole_67 ?_
            have hFc := va_free (wc := cMd h q1 q2 cA cB 0 ct tf ff otd_9 oan_10 qb pa oaT_11 oaF_12 dg fi lo) hD hS hA [0, 1, 2] rfl
            refine va_callv (va_runV (As := [.int (tf ra.toNatClampNeg), .long (ff ra.toNatClampNeg)]) (rest := []) ⟨hx, hb, hml, hown, hts⟩ (c_X3_answer l D h q1 q2 cA cB 0 ct tf ff otd_9 oan_10 qb pa oaT_11 oaF_12 dg fi lo (tf ra.toNatClampNeg) (ff ra.toNatClampNeg) H.size) (cwV 2 hts gX3_whole_X3_answer rfl rfl rfl kV_X3_answer ⟨Nat.le_of_ble_eq_true rfl, Nat.le_of_ble_eq_true rfl⟩) ⟨MMB.blind, va_recv hK hP (ci := 2) (q0 := 0) rfl rfl, MMB.pre hK hP hD⟩ rfl rfl hl.1 rfl (lv_room (Nat.le_of_ble_eq_true rfl)) dX3_whole_68 ⟨Nat.le_of_ble_eq_true rfl, Nat.le_of_ble_eq_true rfl⟩) hS (fun q _ h9 => hFc q h9) hFc (fun u9 t9 H locs ht hvm hw hB hz1 hk1 hS => ?_)
            obtain ⟨oan_54, oaT_55, oaF_56, e_57, hP, hD9⟩ := hB
            rw [ht] at hP
            have hD : va_D A (cMd h q1 q2 cA cB 0 ct tf ff otd_9 oan_54 qb pa oaT_55 oaF_56 dg fi lo) := hD9.weaken (fun _ _ _ h => hFc _ h)
            refine lv_goto (tgt := 152) hx hb dX3_whole_71 (by decide) ?_
            refine lv_aload_n hx hb dX3_whole_152 rfl (lv_at hl 0 rfl) ?_
            refine lv_iload_n hx hb dX3_whole_153 rfl (lv_at hl 2 rfl) ?_
            have hFc := va_free (wc := cMd h q1 q2 cA cB 0 ct tf ff otd_9 oan_54 qb pa oaT_55 oaF_56 dg fi lo) hD hS hA [0, 1, 2] rfl
            refine va_callv (va_runV (As := [.int rc]) (rest := []) ⟨hx, hb, hml, hown, hts⟩ (c_X3_keep l D h q1 q2 cA cB 0 ct tf ff otd_9 oan_54 qb pa oaT_55 oaF_56 dg fi lo rc H.size (M_none_in c_3)) (cwV 1 hts gX3_whole_X3_keep rfl rfl rfl kV_X3_keep ⟨Nat.le_of_ble_eq_true rfl, Nat.le_of_ble_eq_true rfl⟩) ⟨MMB.blind, va_recv hK hP (ci := 2) (q0 := 0) rfl rfl, MMB.pre hK hP hD⟩ rfl rfl hl.1 rfl (lv_room (Nat.le_of_ble_eq_true rfl)) dX3_whole_154 ⟨Nat.le_of_ble_eq_true rfl, Nat.le_of_ble_eq_true rfl⟩) hS (fun q _ h9 => hFc q h9) hFc (fun u9 t9 H locs ht hvm hw hB hz1 hk1 hS => ?_)
            obtain ⟨otf_58, off_59, e_60, hP, hD9⟩ := hB
            rw [ht] at hP
            have hD : va_D A (cMd h q1 q2 cA cB 0 ct otf_58 off_59 otd_9 oan_54 qb pa oaT_55 oaF_56 dg fi lo) := hD9.weaken (fun _ _ _ h => hFc _ h)
            refine lv_aload_n hx hb dX3_whole_157 rfl (lv_at hl 0 rfl) ?_
            refine va_get (v := .int otd_9) (C := RX3) (T := TX3) (N := 13) hx hb hts in_X3 hown hK hP 0 rfl rfl 4 (by decide) w_3 (fun _ h9 => h9) rfl dX3_whole_158 ?_
            have hw : M_whole tf ff ct td an aT aF lo ra rc = (otd_9, 0, otf_58, off_59, otd_9, oan_54, oaT_55, oaF_56, lo) := by unfold M_whole; rw [if_pos c_1, if_pos c_3, tup2_e e_7, tup5_e e_13, if_neg c_14, if_pos c_18, tup3_e e_57, tup2_e e_60]; try rfl
            exact W.iret hx hb hr (fun t9 ht hW => ⟨⟨_, otd_9, rfl, rfl, ⟨0, otf_58, off_59, otd_9, oan_54, oaT_55, oaF_56, lo, hw, by rw [ht]; exact hP, hD⟩⟩, hS.F ht⟩) hS.2.2 dX3_whole_161
      · exact absurd c_4 (by decide)
    · refine lv_iconst (v := 1) hx hb dX3_whole_15 (by decide) ?_
      refine lv_goto (tgt := 20) hx hb dX3_whole_16 (by decide) ?_
      refine va_put (v := .int 1) (ty := .int) (C := RX3) (T := TX3) (N := 13) hx hb hts in_X3 tyX3 tyX3_ok nmX3 hown hK hP hD hS 0 rfl rfl 0 (by decide) w_1 (fun _ h9 => h9) rfl (tyX3_ok 0 (by decide)) rfl rfl (Nat.le_of_ble_eq_true rfl) dX3_whole_20 (fun H locs hP hD hS => ?_)
      have hP : va_P D vwCl (cMd h q1 q2 cA cB 1 ct tf ff td an qb pa aT aF dg fi lo) H := hP
      have hD : va_D A (cMd h q1 q2 cA cB 1 ct tf ff td an qb pa aT aF dg fi lo) := hD
      refine lv_aload_n hx hb dX3_whole_23 rfl (lv_at hl 0 rfl) ?_
      refine va_get (v := .int 1) (C := RX3) (T := TX3) (N := 13) hx hb hts in_X3 hown hK hP 0 rfl rfl 0 (by decide) w_1 (fun _ h9 => h9) rfl dX3_whole_24 ?_
      refine lv_if_le (tgt := 32) hx hb dX3_whole_27 (by decide) (fun c_61 => ?_) (fun c_61 => ?_)
      · exact absurd c_61 (by decide)
      · refine lv_iconst (v := 0) hx hb dX3_whole_30 (by decide) ?_
        have hw : M_whole tf ff ct td an aT aF lo ra rc = (0, 1, tf, ff, td, an, aT, aF, lo) := by unfold M_whole; rw [if_pos c_1, if_neg c_3]; try rfl
        exact W.iret hx hb hr (fun t9 ht hW => ⟨⟨_, 0, rfl, rfl, ⟨1, tf, ff, td, an, aT, aF, lo, hw, by rw [ht]; exact hP, hD⟩⟩, hS.F ht⟩) hS.2.2 dX3_whole_31
def M_scL (dg : Int64) (fi : Int32) : Nat → Int32 → Int32 → Int32 × Int32
  | 0, v1, v2 => (v1, v2)
  | n + 1, v1, v2 => if fi < v2 then ((v1, v2))
    else M_scL dg fi n ((2 * v1) + (bI (if (jlshl dg v2) < 0 then true else false))) (v2 + 1)
theorem M_scL_S (dg : Int64) (fi : Int32) (n : Nat) (v1 : Int32) (v2 : Int32) : M_scL dg fi (n + 1) v1 v2 = (if fi < v2 then ((v1, v2))
    else M_scL dg fi n ((2 * v1) + (bI (if (jlshl dg v2) < 0 then true else false))) (v2 + 1)) := rfl
def M_scale (tf : Nat → Int32) (ff : Nat → Int64) (ct : Int32) (td : Int32) (an : Bool) (aT : Int32) (aF : Int64) (dg : Int64) (fi : Int32) (lo : Bool) (ra : Int32) (rb : Int32) (rc : Int32) : Int32 × Int32 × (Nat → Int32) × (Nat → Int64) × Int32 × Bool × Int32 × Int64 × Int64 × Int32 × Bool :=
  if bI (M_none ra) = 0 then (if bI (M_none rb) = 0 then (if bI (M_none rc) = 0 then (tup2 (M_begin) (fun otd_7 oan_8 =>
          if bI (if 4 ≤ (M_kind (tf rb.toNatClampNeg) (ff rb.toNatClampNeg)) then false else true) = 0 then (tup5 ((M_goesOn ct otd_7 oan_8 aT aF (tf ra.toNatClampNeg) (ff ra.toNatClampNeg) rb (tf rb.toNatClampNeg) (ff rb.toNatClampNeg) (if 4 ≤ (M_kind (tf rb.toNatClampNeg) (ff rb.toNatClampNeg)) then false else true))) (fun v_12 otd_13 oan_14 oaT_15 oaF_16 =>
              if bI v_12 = 0 then (tup2 ((M_keep tf ff oan_14 oaT_15 oaF_16 rc)) (fun otf_19 off_20 =>
                  (otd_13, 0, otf_19, off_20, otd_13, oan_14, oaT_15, oaF_16, dg, fi, lo)))
              else if (M_kind (tf ra.toNatClampNeg) (ff ra.toNatClampNeg)) = 4 then (tup3 ((M_answer (tf ra.toNatClampNeg) (ff ra.toNatClampNeg))) (fun oan_50 oaT_51 oaF_52 =>
                  tup2 ((M_keep tf ff oan_50 oaT_51 oaF_52 rc)) (fun otf_54 off_55 =>
                    (otd_13, 0, otf_54, off_55, otd_13, oan_50, oaT_51, oaF_52, dg, fi, lo))))
              else if bI (M_nothing (tf rb.toNatClampNeg) (ff rb.toNatClampNeg)) = 0 then (tup2 ((M_apart (tf rb.toNatClampNeg) (ff rb.toNatClampNeg))) (fun odg_34 ofi_35 =>
                  tup2 (M_scL odg_34 ofi_35 ((ofi_35.toInt + 1).toNat + 1) 0 0) (fun v1 v2 =>
                    tup5 ((M_make ct otd_13 lo (M_minus (tf ra.toNatClampNeg)) (ff ra.toNatClampNeg) ((M_unit (tf ra.toNatClampNeg)) + (if bI (M_minus (tf rb.toNatClampNeg)) = 0 then v1 else (-v1))))) (fun otd_39 oan_40 oaT_41 oaF_42 olo_43 =>
                      tup2 ((M_keep tf ff oan_40 oaT_41 oaF_42 rc)) (fun otf_45 off_46 =>
                        (otd_39, 0, otf_45, off_46, otd_39, oan_40, oaT_41, oaF_42, odg_34, ofi_35, olo_43))))))
              else (tup5 ((M_make ct otd_13 lo (M_minus (tf ra.toNatClampNeg)) (ff ra.toNatClampNeg) ((M_unit (tf ra.toNatClampNeg)) + (if bI (M_minus (tf rb.toNatClampNeg)) = 0 then (0 : Int32) else (-0 : Int32))))) (fun otd_25 oan_26 oaT_27 oaF_28 olo_29 =>
                  tup2 ((M_keep tf ff oan_26 oaT_27 oaF_28 rc)) (fun otf_31 off_32 =>
                    (otd_25, 0, otf_31, off_32, otd_25, oan_26, oaT_27, oaF_28, dg, fi, olo_29))))))
          else if bI (M_nothing (tf rb.toNatClampNeg) (ff rb.toNatClampNeg)) = 0 then (tup2 ((M_apart (tf rb.toNatClampNeg) (ff rb.toNatClampNeg))) (fun odg_87 ofi_88 =>
              tup5 ((M_goesOn ct otd_7 oan_8 aT aF (tf ra.toNatClampNeg) (ff ra.toNatClampNeg) rb (tf rb.toNatClampNeg) (ff rb.toNatClampNeg) (if 14 ≤ ofi_88 then false else true))) (fun v_91 otd_92 oan_93 oaT_94 oaF_95 =>
                if bI v_91 = 0 then (tup2 ((M_keep tf ff oan_93 oaT_94 oaF_95 rc)) (fun otf_98 off_99 =>
                    (otd_92, 0, otf_98, off_99, otd_92, oan_93, oaT_94, oaF_95, odg_87, ofi_88, lo)))
                else if (M_kind (tf ra.toNatClampNeg) (ff ra.toNatClampNeg)) = 4 then (tup3 ((M_answer (tf ra.toNatClampNeg) (ff ra.toNatClampNeg))) (fun oan_119 oaT_120 oaF_121 =>
                    tup2 ((M_keep tf ff oan_119 oaT_120 oaF_121 rc)) (fun otf_123 off_124 =>
                      (otd_92, 0, otf_123, off_124, otd_92, oan_119, oaT_120, oaF_121, odg_87, ofi_88, lo))))
                else (tup2 ((M_apart (tf rb.toNatClampNeg) (ff rb.toNatClampNeg))) (fun odg_103 ofi_104 =>
                    tup2 (M_scL odg_103 ofi_104 ((ofi_104.toInt + 1).toNat + 1) 0 0) (fun v1 v2 =>
                      tup5 ((M_make ct otd_92 lo (M_minus (tf ra.toNatClampNeg)) (ff ra.toNatClampNeg) ((M_unit (tf ra.toNatClampNeg)) + (if bI (M_minus (tf rb.toNatClampNeg)) = 0 then v1 else (-v1))))) (fun otd_108 oan_109 oaT_110 oaF_111 olo_112 =>
                        tup2 ((M_keep tf ff oan_109 oaT_110 oaF_111 rc)) (fun otf_114 off_115 =>
                          (otd_108, 0, otf_114, off_115, otd_108, oan_109, oaT_110, oaF_111, odg_103, ofi_104, olo_112)))))))))
          else (tup5 ((M_goesOn ct otd_7 oan_8 aT aF (tf ra.toNatClampNeg) (ff ra.toNatClampNeg) rb (tf rb.toNatClampNeg) (ff rb.toNatClampNeg) (if 4 ≤ (M_kind (tf rb.toNatClampNeg) (ff rb.toNatClampNeg)) then false else true))) (fun v_58 otd_59 oan_60 oaT_61 oaF_62 =>
              if bI v_58 = 0 then (tup2 ((M_keep tf ff oan_60 oaT_61 oaF_62 rc)) (fun otf_65 off_66 =>
                  (otd_59, 0, otf_65, off_66, otd_59, oan_60, oaT_61, oaF_62, dg, fi, lo)))
              else if (M_kind (tf ra.toNatClampNeg) (ff ra.toNatClampNeg)) = 4 then (tup3 ((M_answer (tf ra.toNatClampNeg) (ff ra.toNatClampNeg))) (fun oan_80 oaT_81 oaF_82 =>
                  tup2 ((M_keep tf ff oan_80 oaT_81 oaF_82 rc)) (fun otf_84 off_85 =>
                    (otd_59, 0, otf_84, off_85, otd_59, oan_80, oaT_81, oaF_82, dg, fi, lo))))
              else (tup5 ((M_make ct otd_59 lo (M_minus (tf ra.toNatClampNeg)) (ff ra.toNatClampNeg) ((M_unit (tf ra.toNatClampNeg)) + (if bI (M_minus (tf rb.toNatClampNeg)) = 0 then (0 : Int32) else (-0 : Int32))))) (fun otd_71 oan_72 oaT_73 oaF_74 olo_75 =>
                  tup2 ((M_keep tf ff oan_72 oaT_73 oaF_74 rc)) (fun otf_77 off_78 =>
                    (otd_71, 0, otf_77, off_78, otd_71, oan_72, oaT_73, oaF_74, dg, fi, olo_75))))))))
      else (0, 1, tf, ff, td, an, aT, aF, dg, fi, lo))
    else (0, 1, tf, ff, td, an, aT, aF, dg, fi, lo))
  else (0, 1, tf, ff, td, an, aT, aF, dg, fi, lo)
theorem kS_X3_scale : yX3_scale.cls ≠ "java/lang/invoke/MethodHandle" ∧ yX3_scale.cls ≠ "java/lang/invoke/VarHandle" ∧ (parseMethodDescriptor yX3_scale.desc).map (fun d => d.parameters.length) = some 3 := by decide +kernel
theorem kV_X3_scale : yX3_scale.cls = RX3 ∧ yX3_scale.cls ≠ "java/lang/invoke/MethodHandle" ∧ yX3_scale.cls ≠ "java/lang/invoke/VarHandle" ∧ (parseMethodDescriptor yX3_scale.desc).map (fun d => d.parameters.length) = some 3 := ⟨rfl, kS_X3_scale⟩
set_option maxHeartbeats 4000000 in
set_option maxRecDepth 100000 in
theorem c_X3_scale (l : Launch) (D : va_G) (h : Nat) (q1 : Nat) (q2 : Nat) (cA : ClassId) (cB : ClassId) (cd : Int32) (ct : Int32) (tf : Nat → Int32) (ff : Nat → Int64) (td : Int32) (an : Bool) (qb : Int32) (pa : Bool) (aT : Int32) (aF : Int64) (dg : Int64) (fi : Int32) (lo : Bool) (ra : Int32) (rb : Int32) (rc : Int32) (sz : Nat) : Met l yX3_scale wsX3_scale ({ frames := 3, cells := 0, slots := 0, locals := 81 } : Room) (va_Pc [.ref h, .int ra, .int rb, .int rc] (MMB D (tRS cA cB) (cMd h q1 q2 cA cB cd ct tf ff td an qb pa aT aF dg fi lo) sz)) (va_Qi (fun (r u : Int32) => r = u) (fun u t => ∃ (w_cd : Int32) (w_tf : Nat → Int32) (w_ff : Nat → Int64) (w_td : Int32) (w_an : Bool) (w_aT : Int32) (w_aF : Int64) (w_dg : Int64) (w_fi : Int32) (w_lo : Bool), M_scale tf ff ct td an aT aF dg fi lo ra rb rc = (u, w_cd, w_tf, w_ff, w_td, w_an, w_aT, w_aF, w_dg, w_fi, w_lo) ∧ va_P D vwCl (cMd h q1 q2 cA cB w_cd ct w_tf w_ff w_td w_an qb pa w_aT w_aF w_dg w_fi w_lo) t.heap ∧ va_D (va_A (cMd h q1 q2 cA cB cd ct tf ff td an qb pa aT aF dg fi lo) sz) (cMd h q1 q2 cA cB w_cd ct w_tf w_ff w_td w_an qb pa w_aT w_aF w_dg w_fi w_lo)) (va_A (cMd h q1 q2 cA cB cd ct tf ff td an qb pa aT aF dg fi lo) sz)) 0 0 (va_A (cMd h q1 q2 cA cB cd ct tf ff td an qb pa aT aF dg fi lo) sz) := by
  refine Met.ofW (cc := cX3_scale) (maxL := 7) (ret := (some .int)) (by decide) rfl ?_
  intro p e s m args below meth c s₁ B hml hv
  obtain ⟨rfl, hsz, hP, hK, hD0⟩ := hv
  have hx := B.exec
  have hb := B.bytes
  have hr := B.returns
  have hts := atoms_spec (ws := wsX3_scale) B.pre
  have hown : s.vm.findClass RX3 = some m.cls := findClass_of_methodNamed B.named
  have hlocks := B.notSynchronized
  have w_1 := hts (.fieldLink RX3 21 "RealStepsModel" "code" "I") (by decide +kernel)
  have in_X3 : ∀ w ∈ wsX30, w ∈ wsX3_scale := by decide +kernel
  have w_3 := hts (.fieldLink RX3 72 "RealStepsModel" "told" "I") (by decide +kernel)
  have w_4 := hts (.fieldLink RX3 17 "RealStepsModel" "fraction" "[J") (by decide +kernel)
  have w_5 := hts (.fieldLink RX3 57 "RealStepsModel" "first" "I") (by decide +kernel)
  have w_6 := hts (.fieldLink RX3 50 "RealStepsModel" "digits" "J") (by decide +kernel)
  have w_7 := hts (.fieldLink RX3 13 "RealStepsModel" "top" "[I") (by decide +kernel)
  subst hsz
  have hD := hD0.self (sz := s.heap.size)
  generalize hAe : va_A (cMd h q1 q2 cA cB cd ct tf ff td an qb pa aT aF dg fi lo) s.heap.size = A at hD ⊢
  have hA : ∀ q : Nat, s.heap.size ≤ q → A q := fun q h => by rw [← hAe]; exact Or.inr h
  have hS : va_S A s.heap s.heap [] := va_S.rf
  have hP : va_P D vwCl (cMd h q1 q2 cA cB cd ct tf ff td an qb pa aT aF dg fi lo) s.heap := hP
  have hl := lv_entry ([.ref h, .int ra, .int rb, .int rc]) (n := 7) (Nat.le_of_ble_eq_true rfl)
  rw [lg_entry_eq]
  generalize (lg_sl ([.ref h, .int ra, .int rb, .int rc]) ++ List.replicate (7 - (lg_sl ([.ref h, .int ra, .int rb, .int rc])).length) Slot.unset).toArray = ls at hl ⊢
  have hl : lv_has ls 7 [(0, .ref h), (1, .int ra), (2, .int rb), (3, .int rc)] := hl
  refine lv_aload_n hx hb dX3_scale_0 rfl (lv_at hl 0 rfl) ?_
  refine lv_iload_n hx hb dX3_scale_1 rfl (lv_at hl 1 rfl) ?_
  refine vp_callSi (va_cr (va_runS (As := [.int ra]) (rest := [.ref h]) ⟨hx, hb, hml, hown, hts⟩ (c_X3_none l ra) (va_cwS 1 hts gX3_scale_X3_none rfl rfl rfl kS_X3_none ⟨Nat.le_of_ble_eq_true rfl, Nat.le_of_ble_eq_true rfl⟩) ⟨TB.blind, TB.pre⟩ rfl rfl hl.1 rfl (lv_room (Nat.le_of_ble_eq_true rfl)) dX3_scale_2 ⟨Nat.le_of_ble_eq_true rfl, Nat.le_of_ble_eq_true rfl⟩)) (fun r9 e9 => ?_)
  rw [e9]
  refine lv_if_ne (tgt := 22) hx hb dX3_scale_5 (by decide) (fun c_1 => ?_) (fun c_1 => ?_)
  · refine lv_iconst (v := 1) hx hb dX3_scale_22 (by decide) ?_
    refine lv_goto (tgt := 27) hx hb dX3_scale_23 (by decide) ?_
    refine va_put (v := .int 1) (ty := .int) (C := RX3) (T := TX3) (N := 13) hx hb hts in_X3 tyX3 tyX3_ok nmX3 hown hK hP hD hS 0 rfl rfl 0 (by decide) w_1 (fun _ h9 => h9) rfl (tyX3_ok 0 (by decide)) rfl rfl (Nat.le_of_ble_eq_true rfl) dX3_scale_27 (fun H locs hP hD hS => ?_)
    have hP : va_P D vwCl (cMd h q1 q2 cA cB 1 ct tf ff td an qb pa aT aF dg fi lo) H := hP
    have hD : va_D A (cMd h q1 q2 cA cB 1 ct tf ff td an qb pa aT aF dg fi lo) := hD
    refine lv_aload_n hx hb dX3_scale_30 rfl (lv_at hl 0 rfl) ?_
    refine va_get (v := .int 1) (C := RX3) (T := TX3) (N := 13) hx hb hts in_X3 hown hK hP 0 rfl rfl 0 (by decide) w_1 (fun _ h9 => h9) rfl dX3_scale_31 ?_
    refine lv_if_le (tgt := 39) hx hb dX3_scale_34 (by decide) (fun c_2 => ?_) (fun c_2 => ?_)
    · exact absurd c_2 (by decide)
    · refine lv_iconst (v := 0) hx hb dX3_scale_37 (by decide) ?_
      have hw : M_scale tf ff ct td an aT aF dg fi lo ra rb rc = (0, 1, tf, ff, td, an, aT, aF, dg, fi, lo) := by unfold M_scale; rw [if_neg c_1]; try rfl
      exact W.iret hx hb hr (fun t9 ht hW => ⟨⟨_, 0, rfl, rfl, ⟨1, tf, ff, td, an, aT, aF, dg, fi, lo, hw, by rw [ht]; exact hP, hD⟩⟩, hS.F ht⟩) hS.2.2 dX3_scale_38
  · refine lv_iload_n hx hb dX3_scale_8 rfl (lv_at hl 2 rfl) ?_
    refine vp_callSi (va_cr (va_runS (As := [.int rb]) (rest := [.ref h]) ⟨hx, hb, hml, hown, hts⟩ (c_X3_none l rb) (va_cwS 1 hts gX3_scale_X3_none rfl rfl rfl kS_X3_none ⟨Nat.le_of_ble_eq_true rfl, Nat.le_of_ble_eq_true rfl⟩) ⟨TB.blind, TB.pre⟩ rfl rfl hl.1 rfl (lv_room (Nat.le_of_ble_eq_true rfl)) dX3_scale_9 ⟨Nat.le_of_ble_eq_true rfl, Nat.le_of_ble_eq_true rfl⟩)) (fun r9 e9 => ?_)
    rw [e9]
    refine lv_if_ne (tgt := 22) hx hb dX3_scale_12 (by decide) (fun c_3 => ?_) (fun c_3 => ?_)
    · refine lv_iconst (v := 1) hx hb dX3_scale_22 (by decide) ?_
      refine lv_goto (tgt := 27) hx hb dX3_scale_23 (by decide) ?_
      refine va_put (v := .int 1) (ty := .int) (C := RX3) (T := TX3) (N := 13) hx hb hts in_X3 tyX3 tyX3_ok nmX3 hown hK hP hD hS 0 rfl rfl 0 (by decide) w_1 (fun _ h9 => h9) rfl (tyX3_ok 0 (by decide)) rfl rfl (Nat.le_of_ble_eq_true rfl) dX3_scale_27 (fun H locs hP hD hS => ?_)
      have hP : va_P D vwCl (cMd h q1 q2 cA cB 1 ct tf ff td an qb pa aT aF dg fi lo) H := hP
      have hD : va_D A (cMd h q1 q2 cA cB 1 ct tf ff td an qb pa aT aF dg fi lo) := hD
      refine lv_aload_n hx hb dX3_scale_30 rfl (lv_at hl 0 rfl) ?_
      refine va_get (v := .int 1) (C := RX3) (T := TX3) (N := 13) hx hb hts in_X3 hown hK hP 0 rfl rfl 0 (by decide) w_1 (fun _ h9 => h9) rfl dX3_scale_31 ?_
      refine lv_if_le (tgt := 39) hx hb dX3_scale_34 (by decide) (fun c_4 => ?_) (fun c_4 => ?_)
      · exact absurd c_4 (by decide)
      · refine lv_iconst (v := 0) hx hb dX3_scale_37 (by decide) ?_
        have hw : M_scale tf ff ct td an aT aF dg fi lo ra rb rc = (0, 1, tf, ff, td, an, aT, aF, dg, fi, lo) := by unfold M_scale; rw [if_pos c_1, if_neg c_3]; try rfl
        exact W.iret hx hb hr (fun t9 ht hW => ⟨⟨_, 0, rfl, rfl, ⟨1, tf, ff, td, an, aT, aF, dg, fi, lo, hw, by rw [ht]; exact hP, hD⟩⟩, hS.F ht⟩) hS.2.2 dX3_scale_38
    · refine lv_iload_n hx hb dX3_scale_15 rfl (lv_at hl 3 rfl) ?_
      refine vp_callSi (va_cr (va_runS (As := [.int rc]) (rest := [.ref h]) ⟨hx, hb, hml, hown, hts⟩ (c_X3_none l rc) (va_cwS 1 hts gX3_scale_X3_none rfl rfl rfl kS_X3_none ⟨Nat.le_of_ble_eq_true rfl, Nat.le_of_ble_eq_true rfl⟩) ⟨TB.blind, TB.pre⟩ rfl rfl hl.1 rfl (lv_room (Nat.le_of_ble_eq_true rfl)) dX3_scale_16 ⟨Nat.le_of_ble_eq_true rfl, Nat.le_of_ble_eq_true rfl⟩)) (fun r9 e9 => ?_)
      rw [e9]
      refine lv_if_eq (tgt := 26) hx hb dX3_scale_19 (by decide) (fun c_5 => ?_) (fun c_5 => ?_)
      · refine lv_iconst (v := 0) hx hb dX3_scale_26 (by decide) ?_
        refine va_put (v := .int 0) (ty := .int) (C := RX3) (T := TX3) (N := 13) hx hb hts in_X3 tyX3 tyX3_ok nmX3 hown hK hP hD hS 0 rfl rfl 0 (by decide) w_1 (fun _ h9 => h9) rfl (tyX3_ok 0 (by decide)) rfl rfl (Nat.le_of_ble_eq_true rfl) dX3_scale_27 (fun H locs hP hD hS => ?_)
        have hP : va_P D vwCl (cMd h q1 q2 cA cB 0 ct tf ff td an qb pa aT aF dg fi lo) H := hP
        have hD : va_D A (cMd h q1 q2 cA cB 0 ct tf ff td an qb pa aT aF dg fi lo) := hD
        refine lv_aload_n hx hb dX3_scale_30 rfl (lv_at hl 0 rfl) ?_
        refine va_get (v := .int 0) (C := RX3) (T := TX3) (N := 13) hx hb hts in_X3 hown hK hP 0 rfl rfl 0 (by decide) w_1 (fun _ h9 => h9) rfl dX3_scale_31 ?_
        refine lv_if_le (tgt := 39) hx hb dX3_scale_34 (by decide) (fun c_6 => ?_) (fun c_6 => ?_)
        · refine lv_aload_n hx hb dX3_scale_39 rfl (lv_at hl 0 rfl) ?_
          have hFc := va_free (wc := cMd h q1 q2 cA cB 0 ct tf ff td an qb pa aT aF dg fi lo) hD hS hA [0, 1, 2] rfl
          refine va_callv (va_runV (As := []) (rest := []) ⟨hx, hb, hml, hown, hts⟩ (c_X3_begin l D h q1 q2 cA cB 0 ct tf ff td an qb pa aT aF dg fi lo H.size) (cwV 0 hts gX3_scale_X3_begin rfl rfl rfl kV_X3_begin ⟨Nat.le_of_ble_eq_true rfl, Nat.le_of_ble_eq_true rfl⟩) ⟨MMB.blind, va_recv hK hP (ci := 2) (q0 := 0) rfl rfl, MMB.pre hK hP hD⟩ rfl rfl hl.1 rfl (lv_room (Nat.le_of_ble_eq_true rfl)) dX3_scale_40 ⟨Nat.le_of_ble_eq_true rfl, Nat.le_of_ble_eq_true rfl⟩) hS (fun q _ h9 => hFc q h9) hFc (fun u9 t9 H locs ht hvm hw hB hz1 hk1 hS => ?_)
          obtain ⟨otd_7, oan_8, e_9, hP, hD9⟩ := hB
          rw [ht] at hP
          have hD : va_D A (cMd h q1 q2 cA cB 0 ct tf ff otd_7 oan_8 qb pa aT aF dg fi lo) := hD9.weaken (fun _ _ _ h => hFc _ h)
          refine lv_aload_n hx hb dX3_scale_43 rfl (lv_at hl 0 rfl) ?_
          refine lv_iload_n hx hb dX3_scale_44 rfl (lv_at hl 2 rfl) ?_
          refine vp_callSi (va_cr (va_runV (As := [.int rb]) (rest := []) ⟨hx, hb, hml, hown, hts⟩ (c_X3_kind l D h q1 q2 cA cB 0 ct tf ff otd_7 oan_8 qb pa aT aF dg fi lo rb (M_none_in c_3)) (cwV 1 hts gX3_scale_X3_kind rfl rfl rfl kV_X3_kind ⟨Nat.le_of_ble_eq_true rfl, Nat.le_of_ble_eq_true rfl⟩) ⟨PB.blind, va_recv hK hP (ci := 2) (q0 := 0) rfl rfl, PB.pre hK hP⟩ rfl rfl hl.1 rfl (lv_room (Nat.le_of_ble_eq_true rfl)) dX3_scale_45 ⟨Nat.le_of_ble_eq_true rfl, Nat.le_of_ble_eq_true rfl⟩)) (fun r9 e9 => ?_)
          rw [e9]
          refine lv_iconst (v := 4) hx hb dX3_scale_48 (by decide) ?_
          refine q_cut (v := bI (if 4 ≤ (M_kind (tf rb.toNatClampNeg) (ff rb.toNatClampNeg)) then false else true)) (pcJ := 57) (rest := []) (fun J => ?_) ?_
          · refine lv_icmp_ge (tgt := 56) hx hb dX3_scale_49 (by decide) (fun c_10 => ?_) (fun c_10 => ?_)
            · refine lv_iconst (v := 0) hx hb dX3_scale_56 (by decide) ?_
              exact J _ (by rw [if_pos c_10]; try rfl)
            · refine lv_iconst (v := 1) hx hb dX3_scale_52 (by decide) ?_
              refine lv_goto (tgt := 57) hx hb dX3_scale_53 (by decide) ?_
              exact J _ (by rw [if_neg c_10]; try rfl)
          refine lv_istore (lv' := [(4, .int (bI (if 4 ≤ (M_kind (tf rb.toNatClampNeg) (ff rb.toNatClampNeg)) then false else true))), (0, .ref h), (1, .int ra), (2, .int rb), (3, .int rc)]) hx hb dX3_scale_57 hl (by decide) rfl (fun ls hl => ?_)
          refine lv_iload hx hb dX3_scale_59 (lv_at hl 0 rfl) ?_
          refine lv_if_eq (tgt := 93) hx hb dX3_scale_61 (by decide) (fun c_11 => ?_) (fun c_11 => ?_)
          · refine lv_aload_n hx hb dX3_scale_93 rfl (lv_at hl 1 rfl) ?_
            refine lv_iload_n hx hb dX3_scale_94 rfl (lv_at hl 2 rfl) ?_
            refine lv_iload_n hx hb dX3_scale_95 rfl (lv_at hl 3 rfl) ?_
            refine lv_iload hx hb dX3_scale_96 (lv_at hl 0 rfl) ?_
            have hFc := va_free (wc := cMd h q1 q2 cA cB 0 ct tf ff otd_7 oan_8 qb pa aT aF dg fi lo) hD hS hA [0, 1, 2] rfl
            refine va_calli (va_runV (As := [.int ra, .int rb, .int (bI (if 4 ≤ (M_kind (tf rb.toNatClampNeg) (ff rb.toNatClampNeg)) then false else true))]) (rest := []) ⟨hx, hb, hml, hown, hts⟩ (c_X3_goesOn l D h q1 q2 cA cB 0 ct tf ff otd_7 oan_8 qb pa aT aF dg fi lo ra rb (if 4 ≤ (M_kind (tf rb.toNatClampNeg) (ff rb.toNatClampNeg)) then false else true) H.size (M_none_in c_1) (fun _ => (M_none_in c_3))) (cwV 3 hts gX3_scale_X3_goesOn rfl rfl rfl kV_X3_goesOn ⟨Nat.le_of_ble_eq_true rfl, Nat.le_of_ble_eq_true rfl⟩) ⟨MMB.blind, va_recv hK hP (ci := 2) (q0 := 0) rfl rfl, MMB.pre hK hP hD⟩ rfl rfl hl.1 rfl (lv_room (Nat.le_of_ble_eq_true rfl)) dX3_scale_98 ⟨Nat.le_of_ble_eq_true rfl, Nat.le_of_ble_eq_true rfl⟩) hS (fun q _ h9 => hFc q h9) hFc (fun r9 v_12 t9 H locs ht hvm hw hB hz1 hk1 hS => ?_)
            obtain rfl := hw
            obtain ⟨otd_13, oan_14, oaT_15, oaF_16, e_17, hP, hD9⟩ := hB
            rw [ht] at hP
            have hD : va_D A (cMd h q1 q2 cA cB 0 ct tf ff otd_13 oan_14 qb pa oaT_15 oaF_16 dg fi lo) := hD9.weaken (fun _ _ _ h => hFc _ h)
            refine lv_if_eq (tgt := 227) hx hb dX3_scale_101 (by decide) (fun c_18 => ?_) (fun c_18 => ?_)
            · refine lv_aload_n hx hb dX3_scale_227 rfl (lv_at hl 1 rfl) ?_
              refine lv_iload_n hx hb dX3_scale_228 rfl (lv_at hl 4 rfl) ?_
              have hFc := va_free (wc := cMd h q1 q2 cA cB 0 ct tf ff otd_13 oan_14 qb pa oaT_15 oaF_16 dg fi lo) hD hS hA [0, 1, 2] rfl
              refine va_callv (va_runV (As := [.int rc]) (rest := []) ⟨hx, hb, hml, hown, hts⟩ (c_X3_keep l D h q1 q2 cA cB 0 ct tf ff otd_13 oan_14 qb pa oaT_15 oaF_16 dg fi lo rc H.size (M_none_in c_5)) (cwV 1 hts gX3_scale_X3_keep rfl rfl rfl kV_X3_keep ⟨Nat.le_of_ble_eq_true rfl, Nat.le_of_ble_eq_true rfl⟩) ⟨MMB.blind, va_recv hK hP (ci := 2) (q0 := 0) rfl rfl, MMB.pre hK hP hD⟩ rfl rfl hl.1 rfl (lv_room (Nat.le_of_ble_eq_true rfl)) dX3_scale_229 ⟨Nat.le_of_ble_eq_true rfl, Nat.le_of_ble_eq_true rfl⟩) hS (fun q _ h9 => hFc q h9) hFc (fun u9 t9 H locs ht hvm hw hB hz1 hk1 hS => ?_)
              obtain ⟨otf_19, off_20, e_21, hP, hD9⟩ := hB
              rw [ht] at hP
              have hD : va_D A (cMd h q1 q2 cA cB 0 ct otf_19 off_20 otd_13 oan_14 qb pa oaT_15 oaF_16 dg fi lo) := hD9.weaken (fun _ _ _ h => hFc _ h)
              refine lv_aload_n hx hb dX3_scale_232 rfl (lv_at hl 1 rfl) ?_
              refine va_get (v := .int otd_13) (C := RX3) (T := TX3) (N := 13) hx hb hts in_X3 hown hK hP 0 rfl rfl 4 (by decide) w_3 (fun _ h9 => h9) rfl dX3_scale_233 ?_
              have hw : M_scale tf ff ct td an aT aF dg fi lo ra rb rc = (otd_13, 0, otf_19, off_20, otd_13, oan_14, oaT_15, oaF_16, dg, fi, lo) := by unfold M_scale; rw [if_pos c_1, if_pos c_3, if_pos c_5, tup2_e e_9, if_pos c_11, tup5_e e_17, if_pos c_18, tup2_e e_21]; try rfl
              exact W.iret hx hb hr (fun t9 ht hW => ⟨⟨_, otd_13, rfl, rfl, ⟨0, otf_19, off_20, otd_13, oan_14, oaT_15, oaF_16, dg, fi, lo, hw, by rw [ht]; exact hP, hD⟩⟩, hS.F ht⟩) hS.2.2 dX3_scale_236
            · refine lv_aload_n hx hb dX3_scale_104 rfl (lv_at hl 1 rfl) ?_
              refine lv_iload_n hx hb dX3_scale_105 rfl (lv_at hl 2 rfl) ?_
              refine vp_callSi (va_cr (va_runV (As := [.int ra]) (rest := []) ⟨hx, hb, hml, hown, hts⟩ (c_X3_kind l D h q1 q2 cA cB 0 ct tf ff otd_13 oan_14 qb pa oaT_15 oaF_16 dg fi lo ra (M_none_in c_1)) (cwV 1 hts gX3_scale_X3_kind rfl rfl rfl kV_X3_kind ⟨Nat.le_of_ble_eq_true rfl, Nat.le_of_ble_eq_true rfl⟩) ⟨PB.blind, va_recv hK hP (ci := 2) (q0 := 0) rfl rfl, PB.pre hK hP⟩ rfl rfl hl.1 rfl (lv_room (Nat.le_of_ble_eq_true rfl)) dX3_scale_106 ⟨Nat.le_of_ble_eq_true rfl, Nat.le_of_ble_eq_true rfl⟩)) (fun r9 e9 => ?_)
              rw [e9]
              refine lv_iconst (v := 4) hx hb dX3_scale_109 (by decide) ?_
              refine lv_icmp_ne (tgt := 132) hx hb dX3_scale_110 (by decide) (fun c_22 => ?_) (fun c_22 => ?_)
              · refine lv_iconst (v := 0) hx hb dX3_scale_132 (by decide) ?_
                refine lv_istore (lv' := [(5, .int 0), (4, .int (bI (if 4 ≤ (M_kind (tf rb.toNatClampNeg) (ff rb.toNatClampNeg)) then false else true))), (0, .ref h), (1, .int ra), (2, .int rb), (3, .int rc)]) hx hb dX3_scale_133 hl (by decide) rfl (fun ls hl => ?_)
                refine lv_aload_n hx hb dX3_scale_135 rfl (lv_at hl 2 rfl) ?_
                refine lv_iload_n hx hb dX3_scale_136 rfl (lv_at hl 4 rfl) ?_
                refine vp_callSi (va_cr (va_runV (As := [.int rb]) (rest := []) ⟨hx, hb, hml, hown, hts⟩ (c_X3_nothing l D h q1 q2 cA cB 0 ct tf ff otd_13 oan_14 qb pa oaT_15 oaF_16 dg fi lo rb (M_none_in c_3)) (cwV 1 hts gX3_scale_X3_nothing rfl rfl rfl kV_X3_nothing ⟨Nat.le_of_ble_eq_true rfl, Nat.le_of_ble_eq_true rfl⟩) ⟨PB.blind, va_recv hK hP (ci := 2) (q0 := 0) rfl rfl, PB.pre hK hP⟩ rfl rfl hl.1 rfl (lv_room (Nat.le_of_ble_eq_true rfl)) dX3_scale_137 ⟨Nat.le_of_ble_eq_true rfl, Nat.le_of_ble_eq_true rfl⟩)) (fun r9 e9 => ?_)
                rw [e9]
                refine lv_if_ne (tgt := 190) hx hb dX3_scale_140 (by decide) (fun c_23 => ?_) (fun c_23 => ?_)
                · refine lv_aload_n hx hb dX3_scale_190 rfl (lv_at hl 2 rfl) ?_
                  refine lv_aload_n hx hb dX3_scale_191 rfl (lv_at hl 2 rfl) ?_
                  refine lv_iload_n hx hb dX3_scale_192 rfl (lv_at hl 3 rfl) ?_
                  refine vp_callSi (va_cr (va_runV (As := [.int ra]) (rest := [.ref h]) ⟨hx, hb, hml, hown, hts⟩ (c_X3_minus l D h q1 q2 cA cB 0 ct tf ff otd_13 oan_14 qb pa oaT_15 oaF_16 dg fi lo ra (M_none_in c_1)) (cwV 1 hts gX3_scale_X3_minus rfl rfl rfl kV_X3_minus ⟨Nat.le_of_ble_eq_true rfl, Nat.le_of_ble_eq_true rfl⟩) ⟨PB.blind, va_recv hK hP (ci := 2) (q0 := 0) rfl rfl, PB.pre hK hP⟩ rfl rfl hl.1 rfl (lv_room (Nat.le_of_ble_eq_true rfl)) dX3_scale_193 ⟨Nat.le_of_ble_eq_true rfl, Nat.le_of_ble_eq_true rfl⟩)) (fun r9 e9 => ?_)
                  rw [e9]
                  refine lv_aload_n hx hb dX3_scale_196 rfl (lv_at hl 2 rfl) ?_
                  refine va_get (v := .ref q2) (C := RX3) (T := TX3) (N := 13) hx hb hts in_X3 hown hK hP 0 rfl rfl 3 (by decide) w_4 (fun _ h9 => h9) rfl dX3_scale_197 ?_
                  refine lv_iload_n hx hb dX3_scale_200 rfl (lv_at hl 3 rfl) ?_
                  refine va_lald hx hb hK hP 2 1 rfl rfl (M_none_in c_1) dX3_scale_201 ?_
                  refine lv_aload_n hx hb dX3_scale_202 rfl (lv_at hl 2 rfl) ?_
                  refine lv_iload_n hx hb dX3_scale_203 rfl (lv_at hl 3 rfl) ?_
                  refine vp_callSi (va_cr (va_runV (As := [.int ra]) (rest := [.long (ff ra.toNatClampNeg), .int (bI (M_minus (tf ra.toNatClampNeg))), .ref h]) ⟨hx, hb, hml, hown, hts⟩ (c_X3_unit l D h q1 q2 cA cB 0 ct tf ff otd_13 oan_14 qb pa oaT_15 oaF_16 dg fi lo ra (M_none_in c_1)) (cwV 1 hts gX3_scale_X3_unit rfl rfl rfl kV_X3_unit ⟨Nat.le_of_ble_eq_true rfl, Nat.le_of_ble_eq_true rfl⟩) ⟨PB.blind, va_recv hK hP (ci := 2) (q0 := 0) rfl rfl, PB.pre hK hP⟩ rfl rfl hl.1 rfl (lv_room (Nat.le_of_ble_eq_true rfl)) dX3_scale_204 ⟨Nat.le_of_ble_eq_true rfl, Nat.le_of_ble_eq_true rfl⟩)) (fun r9 e9 => ?_)
                  rw [e9]
                  refine lv_aload_n hx hb dX3_scale_207 rfl (lv_at hl 2 rfl) ?_
                  refine lv_iload_n hx hb dX3_scale_208 rfl (lv_at hl 4 rfl) ?_
                  refine vp_callSi (va_cr (va_runV (As := [.int rb]) (rest := [.int (M_unit (tf ra.toNatClampNeg)), .long (ff ra.toNatClampNeg), .int (bI (M_minus (tf ra.toNatClampNeg))), .ref h]) ⟨hx, hb, hml, hown, hts⟩ (c_X3_minus l D h q1 q2 cA cB 0 ct tf ff otd_13 oan_14 qb pa oaT_15 oaF_16 dg fi lo rb (M_none_in c_3)) (cwV 1 hts gX3_scale_X3_minus rfl rfl rfl kV_X3_minus ⟨Nat.le_of_ble_eq_true rfl, Nat.le_of_ble_eq_true rfl⟩) ⟨PB.blind, va_recv hK hP (ci := 2) (q0 := 0) rfl rfl, PB.pre hK hP⟩ rfl rfl hl.1 rfl (lv_room (Nat.le_of_ble_eq_true rfl)) dX3_scale_209 ⟨Nat.le_of_ble_eq_true rfl, Nat.le_of_ble_eq_true rfl⟩)) (fun r9 e9 => ?_)
                  rw [e9]
                  refine q_cut (v := (if bI (M_minus (tf rb.toNatClampNeg)) = 0 then (0 : Int32) else (-0 : Int32))) (pcJ := 223) (rest := [.int (M_unit (tf ra.toNatClampNeg)), .long (ff ra.toNatClampNeg), .int (bI (M_minus (tf ra.toNatClampNeg))), .ref h]) (fun J => ?_) ?_
                  · refine lv_if_eq (tgt := 221) hx hb dX3_scale_212 (by decide) (fun c_24 => ?_) (fun c_24 => ?_)
                    · refine lv_iload hx hb dX3_scale_221 (lv_at hl 0 rfl) ?_
                      exact J _ (by rw [if_pos c_24]; try rfl)
                    · refine lv_iload hx hb dX3_scale_215 (lv_at hl 0 rfl) ?_
                      refine lv_ineg hx hb dX3_scale_217 ?_
                      refine lv_goto (tgt := 223) hx hb dX3_scale_218 (by decide) ?_
                      exact J _ (by rw [if_neg c_24]; try rfl)
                  refine lv_iadd hx hb dX3_scale_223 ?_
                  have hFc := va_free (wc := cMd h q1 q2 cA cB 0 ct tf ff otd_13 oan_14 qb pa oaT_15 oaF_16 dg fi lo) hD hS hA [0, 1, 2] rfl
                  refine va_callv (va_runV (As := [.int (bI (M_minus (tf ra.toNatClampNeg))), .long (ff ra.toNatClampNeg), .int ((M_unit (tf ra.toNatClampNeg)) + (if bI (M_minus (tf rb.toNatClampNeg)) = 0 then (0 : Int32) else (-0 : Int32)))]) (rest := []) ⟨hx, hb, hml, hown, hts⟩ (c_X3_make l D h q1 q2 cA cB 0 ct tf ff otd_13 oan_14 qb pa oaT_15 oaF_16 dg fi lo (M_minus (tf ra.toNatClampNeg)) (ff ra.toNatClampNeg) ((M_unit (tf ra.toNatClampNeg)) + (if bI (M_minus (tf rb.toNatClampNeg)) = 0 then (0 : Int32) else (-0 : Int32))) H.size) (cwV 3 hts gX3_scale_X3_make rfl rfl rfl kV_X3_make ⟨Nat.le_of_ble_eq_true rfl, Nat.le_of_ble_eq_true rfl⟩) ⟨MMB.blind, va_recv hK hP (ci := 2) (q0 := 0) rfl rfl, MMB.pre hK hP hD⟩ rfl rfl hl.1 rfl (lv_room (Nat.le_of_ble_eq_true rfl)) dX3_scale_224 ⟨Nat.le_of_ble_eq_true rfl, Nat.le_of_ble_eq_true rfl⟩) hS (fun q _ h9 => hFc q h9) hFc (fun u9 t9 H locs ht hvm hw hB hz1 hk1 hS => ?_)
                  obtain ⟨otd_25, oan_26, oaT_27, oaF_28, olo_29, e_30, hP, hD9⟩ := hB
                  rw [ht] at hP
                  have hD : va_D A (cMd h q1 q2 cA cB 0 ct tf ff otd_25 oan_26 qb pa oaT_27 oaF_28 dg fi olo_29) := hD9.weaken (fun _ _ _ h => hFc _ h)
                  refine lv_aload_n hx hb dX3_scale_227 rfl (lv_at hl 2 rfl) ?_
                  refine lv_iload_n hx hb dX3_scale_228 rfl (lv_at hl 5 rfl) ?_
                  have hFc := va_free (wc := cMd h q1 q2 cA cB 0 ct tf ff otd_25 oan_26 qb pa oaT_27 oaF_28 dg fi olo_29) hD hS hA [0, 1, 2] rfl
                  refine va_callv (va_runV (As := [.int rc]) (rest := []) ⟨hx, hb, hml, hown, hts⟩ (c_X3_keep l D h q1 q2 cA cB 0 ct tf ff otd_25 oan_26 qb pa oaT_27 oaF_28 dg fi olo_29 rc H.size (M_none_in c_5)) (cwV 1 hts gX3_scale_X3_keep rfl rfl rfl kV_X3_keep ⟨Nat.le_of_ble_eq_true rfl, Nat.le_of_ble_eq_true rfl⟩) ⟨MMB.blind, va_recv hK hP (ci := 2) (q0 := 0) rfl rfl, MMB.pre hK hP hD⟩ rfl rfl hl.1 rfl (lv_room (Nat.le_of_ble_eq_true rfl)) dX3_scale_229 ⟨Nat.le_of_ble_eq_true rfl, Nat.le_of_ble_eq_true rfl⟩) hS (fun q _ h9 => hFc q h9) hFc (fun u9 t9 H locs ht hvm hw hB hz1 hk1 hS => ?_)
                  obtain ⟨otf_31, off_32, e_33, hP, hD9⟩ := hB
                  rw [ht] at hP
                  have hD : va_D A (cMd h q1 q2 cA cB 0 ct otf_31 off_32 otd_25 oan_26 qb pa oaT_27 oaF_28 dg fi olo_29) := hD9.weaken (fun _ _ _ h => hFc _ h)
                  refine lv_aload_n hx hb dX3_scale_232 rfl (lv_at hl 2 rfl) ?_
                  refine va_get (v := .int otd_25) (C := RX3) (T := TX3) (N := 13) hx hb hts in_X3 hown hK hP 0 rfl rfl 4 (by decide) w_3 (fun _ h9 => h9) rfl dX3_scale_233 ?_
                  have hw : M_scale tf ff ct td an aT aF dg fi lo ra rb rc = (otd_25, 0, otf_31, off_32, otd_25, oan_26, oaT_27, oaF_28, dg, fi, olo_29) := by unfold M_scale; rw [if_pos c_1, if_pos c_3, if_pos c_5, tup2_e e_9, if_pos c_11, tup5_e e_17, if_neg c_18, if_neg c_22, if_neg c_23, tup5_e e_30, tup2_e e_33]; try rfl
                  exact W.iret hx hb hr (fun t9 ht hW => ⟨⟨_, otd_25, rfl, rfl, ⟨0, otf_31, off_32, otd_25, oan_26, oaT_27, oaF_28, dg, fi, olo_29, hw, by rw [ht]; exact hP, hD⟩⟩, hS.F ht⟩) hS.2.2 dX3_scale_236
                · refine lv_aload_n hx hb dX3_scale_143 rfl (lv_at hl 2 rfl) ?_
                  refine lv_iload_n hx hb dX3_scale_144 rfl (lv_at hl 4 rfl) ?_
                  have hFc := va_free (wc := cMd h q1 q2 cA cB 0 ct tf ff otd_13 oan_14 qb pa oaT_15 oaF_16 dg fi lo) hD hS hA [0, 1, 2] rfl
                  refine va_callv (va_runV (As := [.int rb]) (rest := []) ⟨hx, hb, hml, hown, hts⟩ (c_X3_apart l D h q1 q2 cA cB 0 ct tf ff otd_13 oan_14 qb pa oaT_15 oaF_16 dg fi lo rb H.size (M_none_in c_3)) (cwV 1 hts gX3_scale_X3_apart rfl rfl rfl kV_X3_apart ⟨Nat.le_of_ble_eq_true rfl, Nat.le_of_ble_eq_true rfl⟩) ⟨MMB.blind, va_recv hK hP (ci := 2) (q0 := 0) rfl rfl, MMB.pre hK hP hD⟩ rfl rfl hl.1 rfl (lv_room (Nat.le_of_ble_eq_true rfl)) dX3_scale_145 ⟨Nat.le_of_ble_eq_true rfl, Nat.le_of_ble_eq_true rfl⟩) hS (fun q _ h9 => hFc q h9) hFc (fun u9 t9 H locs ht hvm hw hB hz1 hk1 hS => ?_)
                  obtain ⟨odg_34, ofi_35, e_36, hP, hD9⟩ := hB
                  rw [ht] at hP
                  have hD : va_D A (cMd h q1 q2 cA cB 0 ct tf ff otd_13 oan_14 qb pa oaT_15 oaF_16 odg_34 ofi_35 lo) := hD9.weaken (fun _ _ _ h => hFc _ h)
                  refine lv_iconst (v := 0) hx hb dX3_scale_148 (by decide) ?_
                  refine lv_istore (lv' := [(6, .int 0), (5, .int 0), (4, .int (bI (if 4 ≤ (M_kind (tf rb.toNatClampNeg) (ff rb.toNatClampNeg)) then false else true))), (0, .ref h), (1, .int ra), (2, .int rb), (3, .int rc)]) hx hb dX3_scale_149 hl (by decide) rfl (fun ls hl => ?_)
                  have EXIT : ∀ (v1 : Int32) (v2 : Int32), M_scL odg_34 ofi_35 ((ofi_35.toInt + 1).toNat + 1) 0 0 = (v1, v2) → ∀ (H : Heap) (locs : List Loc) (ls : Array Slot), va_P D vwCl (cMd h q1 q2 cA cB 0 ct tf ff otd_13 oan_14 qb pa oaT_15 oaF_16 odg_34 ofi_35 lo) H → va_D A (cMd h q1 q2 cA cB 0 ct tf ff otd_13 oan_14 qb pa oaT_15 oaF_16 odg_34 ofi_35 lo) → va_S A s.heap H locs → lv_has ls 7 [(6, .int v2), (5, .int v1), (4, .int (bI (if 4 ≤ (M_kind (tf rb.toNatClampNeg) (ff rb.toNatClampNeg)) then false else true))), (0, .ref h), (1, .int ra), (2, .int rb), (3, .int rc)] → W p l e (headSpec wsX3_scale ({ frames := 3, cells := 0, slots := 0, locals := 81 } : Room)).room s m ([.ref h, .int ra, .int rb, .int rc]).toArray below meth c H locs 0 0 (MQ below (va_Qi (fun (r u : Int32) => r = u) (fun u t => ∃ (w_cd : Int32) (w_tf : Nat → Int32) (w_ff : Nat → Int64) (w_td : Int32) (w_an : Bool) (w_aT : Int32) (w_aF : Int64) (w_dg : Int64) (w_fi : Int32) (w_lo : Bool), M_scale tf ff ct td an aT aF dg fi lo ra rb rc = (u, w_cd, w_tf, w_ff, w_td, w_an, w_aT, w_aF, w_dg, w_fi, w_lo) ∧ va_P D vwCl (cMd h q1 q2 cA cB w_cd ct w_tf w_ff w_td w_an qb pa w_aT w_aF w_dg w_fi w_lo) t.heap ∧ va_D A (cMd h q1 q2 cA cB w_cd ct w_tf w_ff w_td w_an qb pa w_aT w_aF w_dg w_fi w_lo)) A) ([.ref h, .int ra, .int rb, .int rc]).toArray s 0 0 A) (F0 m 190 ls []) := by
                    intro v1 v2 e_37 H locs ls hP hD hS hl
                    refine lv_aload_n hx hb dX3_scale_190 rfl (lv_at hl 3 rfl) ?_
                    refine lv_aload_n hx hb dX3_scale_191 rfl (lv_at hl 3 rfl) ?_
                    refine lv_iload_n hx hb dX3_scale_192 rfl (lv_at hl 4 rfl) ?_
                    refine vp_callSi (va_cr (va_runV (As := [.int ra]) (rest := [.ref h]) ⟨hx, hb, hml, hown, hts⟩ (c_X3_minus l D h q1 q2 cA cB 0 ct tf ff otd_13 oan_14 qb pa oaT_15 oaF_16 odg_34 ofi_35 lo ra (M_none_in c_1)) (cwV 1 hts gX3_scale_X3_minus rfl rfl rfl kV_X3_minus ⟨Nat.le_of_ble_eq_true rfl, Nat.le_of_ble_eq_true rfl⟩) ⟨PB.blind, va_recv hK hP (ci := 2) (q0 := 0) rfl rfl, PB.pre hK hP⟩ rfl rfl hl.1 rfl (lv_room (Nat.le_of_ble_eq_true rfl)) dX3_scale_193 ⟨Nat.le_of_ble_eq_true rfl, Nat.le_of_ble_eq_true rfl⟩)) (fun r9 e9 => ?_)
                    rw [e9]
                    refine lv_aload_n hx hb dX3_scale_196 rfl (lv_at hl 3 rfl) ?_
                    refine va_get (v := .ref q2) (C := RX3) (T := TX3) (N := 13) hx hb hts in_X3 hown hK hP 0 rfl rfl 3 (by decide) w_4 (fun _ h9 => h9) rfl dX3_scale_197 ?_
                    refine lv_iload_n hx hb dX3_scale_200 rfl (lv_at hl 4 rfl) ?_
                    refine va_lald hx hb hK hP 2 1 rfl rfl (M_none_in c_1) dX3_scale_201 ?_
                    refine lv_aload_n hx hb dX3_scale_202 rfl (lv_at hl 3 rfl) ?_
                    refine lv_iload_n hx hb dX3_scale_203 rfl (lv_at hl 4 rfl) ?_
                    refine vp_callSi (va_cr (va_runV (As := [.int ra]) (rest := [.long (ff ra.toNatClampNeg), .int (bI (M_minus (tf ra.toNatClampNeg))), .ref h]) ⟨hx, hb, hml, hown, hts⟩ (c_X3_unit l D h q1 q2 cA cB 0 ct tf ff otd_13 oan_14 qb pa oaT_15 oaF_16 odg_34 ofi_35 lo ra (M_none_in c_1)) (cwV 1 hts gX3_scale_X3_unit rfl rfl rfl kV_X3_unit ⟨Nat.le_of_ble_eq_true rfl, Nat.le_of_ble_eq_true rfl⟩) ⟨PB.blind, va_recv hK hP (ci := 2) (q0 := 0) rfl rfl, PB.pre hK hP⟩ rfl rfl hl.1 rfl (lv_room (Nat.le_of_ble_eq_true rfl)) dX3_scale_204 ⟨Nat.le_of_ble_eq_true rfl, Nat.le_of_ble_eq_true rfl⟩)) (fun r9 e9 => ?_)
                    rw [e9]
                    refine lv_aload_n hx hb dX3_scale_207 rfl (lv_at hl 3 rfl) ?_
                    refine lv_iload_n hx hb dX3_scale_208 rfl (lv_at hl 5 rfl) ?_
                    refine vp_callSi (va_cr (va_runV (As := [.int rb]) (rest := [.int (M_unit (tf ra.toNatClampNeg)), .long (ff ra.toNatClampNeg), .int (bI (M_minus (tf ra.toNatClampNeg))), .ref h]) ⟨hx, hb, hml, hown, hts⟩ (c_X3_minus l D h q1 q2 cA cB 0 ct tf ff otd_13 oan_14 qb pa oaT_15 oaF_16 odg_34 ofi_35 lo rb (M_none_in c_3)) (cwV 1 hts gX3_scale_X3_minus rfl rfl rfl kV_X3_minus ⟨Nat.le_of_ble_eq_true rfl, Nat.le_of_ble_eq_true rfl⟩) ⟨PB.blind, va_recv hK hP (ci := 2) (q0 := 0) rfl rfl, PB.pre hK hP⟩ rfl rfl hl.1 rfl (lv_room (Nat.le_of_ble_eq_true rfl)) dX3_scale_209 ⟨Nat.le_of_ble_eq_true rfl, Nat.le_of_ble_eq_true rfl⟩)) (fun r9 e9 => ?_)
                    rw [e9]
                    refine q_cut (v := (if bI (M_minus (tf rb.toNatClampNeg)) = 0 then v1 else (-v1))) (pcJ := 223) (rest := [.int (M_unit (tf ra.toNatClampNeg)), .long (ff ra.toNatClampNeg), .int (bI (M_minus (tf ra.toNatClampNeg))), .ref h]) (fun J => ?_) ?_
                    · refine lv_if_eq (tgt := 221) hx hb dX3_scale_212 (by decide) (fun c_38 => ?_) (fun c_38 => ?_)
                      · refine lv_iload hx hb dX3_scale_221 (lv_at hl 1 rfl) ?_
                        exact J _ (by rw [if_pos c_38]; try rfl)
                      · refine lv_iload hx hb dX3_scale_215 (lv_at hl 1 rfl) ?_
                        refine lv_ineg hx hb dX3_scale_217 ?_
                        refine lv_goto (tgt := 223) hx hb dX3_scale_218 (by decide) ?_
                        exact J _ (by rw [if_neg c_38]; try rfl)
                    refine lv_iadd hx hb dX3_scale_223 ?_
                    have hFc := va_free (wc := cMd h q1 q2 cA cB 0 ct tf ff otd_13 oan_14 qb pa oaT_15 oaF_16 odg_34 ofi_35 lo) hD hS hA [0, 1, 2] rfl
                    refine va_callv (va_runV (As := [.int (bI (M_minus (tf ra.toNatClampNeg))), .long (ff ra.toNatClampNeg), .int ((M_unit (tf ra.toNatClampNeg)) + (if bI (M_minus (tf rb.toNatClampNeg)) = 0 then v1 else (-v1)))]) (rest := []) ⟨hx, hb, hml, hown, hts⟩ (c_X3_make l D h q1 q2 cA cB 0 ct tf ff otd_13 oan_14 qb pa oaT_15 oaF_16 odg_34 ofi_35 lo (M_minus (tf ra.toNatClampNeg)) (ff ra.toNatClampNeg) ((M_unit (tf ra.toNatClampNeg)) + (if bI (M_minus (tf rb.toNatClampNeg)) = 0 then v1 else (-v1))) H.size) (cwV 3 hts gX3_scale_X3_make rfl rfl rfl kV_X3_make ⟨Nat.le_of_ble_eq_true rfl, Nat.le_of_ble_eq_true rfl⟩) ⟨MMB.blind, va_recv hK hP (ci := 2) (q0 := 0) rfl rfl, MMB.pre hK hP hD⟩ rfl rfl hl.1 rfl (lv_room (Nat.le_of_ble_eq_true rfl)) dX3_scale_224 ⟨Nat.le_of_ble_eq_true rfl, Nat.le_of_ble_eq_true rfl⟩) hS (fun q _ h9 => hFc q h9) hFc (fun u9 t9 H locs ht hvm hw hB hz1 hk1 hS => ?_)
                    obtain ⟨otd_39, oan_40, oaT_41, oaF_42, olo_43, e_44, hP, hD9⟩ := hB
                    rw [ht] at hP
                    have hD : va_D A (cMd h q1 q2 cA cB 0 ct tf ff otd_39 oan_40 qb pa oaT_41 oaF_42 odg_34 ofi_35 olo_43) := hD9.weaken (fun _ _ _ h => hFc _ h)
                    refine lv_aload_n hx hb dX3_scale_227 rfl (lv_at hl 3 rfl) ?_
                    refine lv_iload_n hx hb dX3_scale_228 rfl (lv_at hl 6 rfl) ?_
                    have hFc := va_free (wc := cMd h q1 q2 cA cB 0 ct tf ff otd_39 oan_40 qb pa oaT_41 oaF_42 odg_34 ofi_35 olo_43) hD hS hA [0, 1, 2] rfl
                    refine va_callv (va_runV (As := [.int rc]) (rest := []) ⟨hx, hb, hml, hown, hts⟩ (c_X3_keep l D h q1 q2 cA cB 0 ct tf ff otd_39 oan_40 qb pa oaT_41 oaF_42 odg_34 ofi_35 olo_43 rc H.size (M_none_in c_5)) (cwV 1 hts gX3_scale_X3_keep rfl rfl rfl kV_X3_keep ⟨Nat.le_of_ble_eq_true rfl, Nat.le_of_ble_eq_true rfl⟩) ⟨MMB.blind, va_recv hK hP (ci := 2) (q0 := 0) rfl rfl, MMB.pre hK hP hD⟩ rfl rfl hl.1 rfl (lv_room (Nat.le_of_ble_eq_true rfl)) dX3_scale_229 ⟨Nat.le_of_ble_eq_true rfl, Nat.le_of_ble_eq_true rfl⟩) hS (fun q _ h9 => hFc q h9) hFc (fun u9 t9 H locs ht hvm hw hB hz1 hk1 hS => ?_)
                    obtain ⟨otf_45, off_46, e_47, hP, hD9⟩ := hB
                    rw [ht] at hP
                    have hD : va_D A (cMd h q1 q2 cA cB 0 ct otf_45 off_46 otd_39 oan_40 qb pa oaT_41 oaF_42 odg_34 ofi_35 olo_43) := hD9.weaken (fun _ _ _ h => hFc _ h)
                    refine lv_aload_n hx hb dX3_scale_232 rfl (lv_at hl 3 rfl) ?_
                    refine va_get (v := .int otd_39) (C := RX3) (T := TX3) (N := 13) hx hb hts in_X3 hown hK hP 0 rfl rfl 4 (by decide) w_3 (fun _ h9 => h9) rfl dX3_scale_233 ?_
                    have hw : M_scale tf ff ct td an aT aF dg fi lo ra rb rc = (otd_39, 0, otf_45, off_46, otd_39, oan_40, oaT_41, oaF_42, odg_34, ofi_35, olo_43) := by unfold M_scale; rw [if_pos c_1, if_pos c_3, if_pos c_5, tup2_e e_9, if_pos c_11, tup5_e e_17, if_neg c_18, if_neg c_22, if_pos c_23, tup2_e e_36, tup2_e e_37, tup5_e e_44, tup2_e e_47]; try rfl
                    exact W.iret hx hb hr (fun t9 ht hW => ⟨⟨_, otd_39, rfl, rfl, ⟨0, otf_45, off_46, otd_39, oan_40, oaT_41, oaF_42, odg_34, ofi_35, olo_43, hw, by rw [ht]; exact hP, hD⟩⟩, hS.F ht⟩) hS.2.2 dX3_scale_236
                  have LOOP : ∀ (n : Nat) (v1 : Int32) (v2 : Int32), (ofi_35.toInt + 1 - v2.toInt).toNat < n → M_scL odg_34 ofi_35 n v1 v2 = M_scL odg_34 ofi_35 ((ofi_35.toInt + 1).toNat + 1) 0 0 → ∀ (H : Heap) (locs : List Loc) (ls : Array Slot), va_P D vwCl (cMd h q1 q2 cA cB 0 ct tf ff otd_13 oan_14 qb pa oaT_15 oaF_16 odg_34 ofi_35 lo) H → va_D A (cMd h q1 q2 cA cB 0 ct tf ff otd_13 oan_14 qb pa oaT_15 oaF_16 odg_34 ofi_35 lo) → va_S A s.heap H locs → lv_has ls 7 [(6, .int v2), (5, .int v1), (4, .int (bI (if 4 ≤ (M_kind (tf rb.toNatClampNeg) (ff rb.toNatClampNeg)) then false else true))), (0, .ref h), (1, .int ra), (2, .int rb), (3, .int rc)] → W p l e (headSpec wsX3_scale ({ frames := 3, cells := 0, slots := 0, locals := 81 } : Room)).room s m ([.ref h, .int ra, .int rb, .int rc]).toArray below meth c H locs 0 0 (MQ below (va_Qi (fun (r u : Int32) => r = u) (fun u t => ∃ (w_cd : Int32) (w_tf : Nat → Int32) (w_ff : Nat → Int64) (w_td : Int32) (w_an : Bool) (w_aT : Int32) (w_aF : Int64) (w_dg : Int64) (w_fi : Int32) (w_lo : Bool), M_scale tf ff ct td an aT aF dg fi lo ra rb rc = (u, w_cd, w_tf, w_ff, w_td, w_an, w_aT, w_aF, w_dg, w_fi, w_lo) ∧ va_P D vwCl (cMd h q1 q2 cA cB w_cd ct w_tf w_ff w_td w_an qb pa w_aT w_aF w_dg w_fi w_lo) t.heap ∧ va_D A (cMd h q1 q2 cA cB w_cd ct w_tf w_ff w_td w_an qb pa w_aT w_aF w_dg w_fi w_lo)) A) ([.ref h, .int ra, .int rb, .int rc]).toArray s 0 0 A) (F0 m 151 ls []) := by
                    intro n
                    induction n with
                    | zero => intro v1 v2 hmu; exact absurd hmu (Nat.not_lt_zero _)
                    | succ n ih =>
                      intro v1 v2 hmu hF H locs ls hP hD hS hl
                      refine lv_iload hx hb dX3_scale_151 (lv_at hl 0 rfl) ?_
                      refine lv_aload_n hx hb dX3_scale_153 rfl (lv_at hl 3 rfl) ?_
                      refine va_get (v := .int ofi_35) (C := RX3) (T := TX3) (N := 13) hx hb hts in_X3 hown hK hP 0 rfl rfl 11 (by decide) w_5 (fun _ h9 => h9) rfl dX3_scale_154 ?_
                      refine lv_icmp_gt (tgt := 190) hx hb dX3_scale_157 (by decide) (fun c_48 => ?_) (fun c_48 => ?_)
                      · rw [M_scL_S odg_34 ofi_35 n v1 v2] at hF; rw [if_pos c_48] at hF
                        exact EXIT v1 v2 hF.symm H locs ls hP hD hS (lv_sub hl [0, 1, 2, 3, 4, 5, 6] rfl)
                      · refine lv_iconst (v := 2) hx hb dX3_scale_160 (by decide) ?_
                        refine lv_iload hx hb dX3_scale_161 (lv_at hl 1 rfl) ?_
                        refine lv_imul hx hb dX3_scale_163 ?_
                        refine lv_aload_n hx hb dX3_scale_164 rfl (lv_at hl 3 rfl) ?_
                        refine va_get (v := .long odg_34) (C := RX3) (T := TX3) (N := 13) hx hb hts in_X3 hown hK hP 0 rfl rfl 10 (by decide) w_6 (fun _ h9 => h9) rfl dX3_scale_165 ?_
                        refine lv_iload hx hb dX3_scale_168 (lv_at hl 0 rfl) ?_
                        refine lv_lshl (v := (jlshl odg_34 v2)) hx hb dX3_scale_170 rfl ?_
                        refine lv_lconst (v := 0) hx hb dX3_scale_171 (by decide) ?_
                        refine q_cut (v := bI (if (jlshl odg_34 v2) < 0 then true else false)) (pcJ := 181) (rest := [.int (2 * v1)]) (fun J => ?_) ?_
                        · refine q_cl_ge (tgt := 180) hx hb dX3_scale_172 dX3_scale_173 (by decide) (fun c_49 => ?_) (fun c_49 => ?_)
                          · refine lv_iconst (v := 0) hx hb dX3_scale_180 (by decide) ?_
                            exact J _ (by rw [if_neg c_49]; try rfl)
                          · refine lv_iconst (v := 1) hx hb dX3_scale_176 (by decide) ?_
                            refine lv_goto (tgt := 181) hx hb dX3_scale_177 (by decide) ?_
                            exact J _ (by rw [if_pos c_49]; try rfl)
                        refine lv_iadd hx hb dX3_scale_181 ?_
                        refine lv_istore (lv' := [(5, .int ((2 * v1) + (bI (if (jlshl odg_34 v2) < 0 then true else false)))), (6, .int v2), (4, .int (bI (if 4 ≤ (M_kind (tf rb.toNatClampNeg) (ff rb.toNatClampNeg)) then false else true))), (0, .ref h), (1, .int ra), (2, .int rb), (3, .int rc)]) hx hb dX3_scale_182 hl (by decide) rfl (fun ls hl => ?_)
                        refine lv_iinc (v := (v2 + 1)) (lv' := [(6, .int (v2 + 1)), (5, .int ((2 * v1) + (bI (if (jlshl odg_34 v2) < 0 then true else false)))), (4, .int (bI (if 4 ≤ (M_kind (tf rb.toNatClampNeg) (ff rb.toNatClampNeg)) then false else true))), (0, .ref h), (1, .int ra), (2, .int rb), (3, .int rc)]) hx hb dX3_scale_184 hl (k := 1) rfl rfl (by decide) rfl (fun ls hl => ?_)
                        refine lv_goto (tgt := 151) hx hb dX3_scale_187 (by decide) ?_
                        exact ih ((2 * v1) + (bI (if (jlshl odg_34 v2) < 0 then true else false))) (v2 + 1) (mu_go (mu_incle c_48 (M_apart_fi e_36)) hmu) (by rw [← hF, M_scL_S odg_34 ofi_35 n v1 v2, if_neg c_48]) H locs ls hP hD hS (lv_sub hl [0, 1, 2, 3, 4, 5, 6] rfl)
                  exact LOOP ((ofi_35.toInt + 1).toNat + 1) 0 0 (mu_01 _) rfl H _ ls hP hD hS (lv_sub hl [0, 1, 2, 3, 4, 5, 6] rfl)
              · refine lv_aload_n hx hb dX3_scale_113 rfl (lv_at hl 1 rfl) ?_
                refine lv_aload_n hx hb dX3_scale_114 rfl (lv_at hl 1 rfl) ?_
                refine va_get (v := .ref q1) (C := RX3) (T := TX3) (N := 13) hx hb hts in_X3 hown hK hP 0 rfl rfl 2 (by decide) w_7 (fun _ h9 => h9) rfl dX3_scale_115 ?_
                refine lv_iload_n hx hb dX3_scale_118 rfl (lv_at hl 2 rfl) ?_
                refine va_iald hx hb hK hP 1 0 rfl rfl (M_none_in c_1) dX3_scale_119 ?_
                refine lv_aload_n hx hb dX3_scale_120 rfl (lv_at hl 1 rfl) ?_
                refine va_get (v := .ref q2) (C := RX3) (T := TX3) (N := 13) hx hb hts in_X3 hown hK hP 0 rfl rfl 3 (by decide) w_4 (fun _ h9 => h9) rfl dX3_scale_121 ?_
                refine lv_iload_n hx hb dX3_scale_124 rfl (lv_at hl 2 rfl) ?_
                refine va_lald hx hb hK hP 2 1 rfl rfl (M_none_in c_1) dX3_scale_125 ?_
                have hFc := va_free (wc := cMd h q1 q2 cA cB 0 ct tf ff otd_13 oan_14 qb pa oaT_15 oaF_16 dg fi lo) hD hS hA [0, 1, 2] rfl
                refine va_callv (va_runV (As := [.int (tf ra.toNatClampNeg), .long (ff ra.toNatClampNeg)]) (rest := []) ⟨hx, hb, hml, hown, hts⟩ (c_X3_answer l D h q1 q2 cA cB 0 ct tf ff otd_13 oan_14 qb pa oaT_15 oaF_16 dg fi lo (tf ra.toNatClampNeg) (ff ra.toNatClampNeg) H.size) (cwV 2 hts gX3_scale_X3_answer rfl rfl rfl kV_X3_answer ⟨Nat.le_of_ble_eq_true rfl, Nat.le_of_ble_eq_true rfl⟩) ⟨MMB.blind, va_recv hK hP (ci := 2) (q0 := 0) rfl rfl, MMB.pre hK hP hD⟩ rfl rfl hl.1 rfl (lv_room (Nat.le_of_ble_eq_true rfl)) dX3_scale_126 ⟨Nat.le_of_ble_eq_true rfl, Nat.le_of_ble_eq_true rfl⟩) hS (fun q _ h9 => hFc q h9) hFc (fun u9 t9 H locs ht hvm hw hB hz1 hk1 hS => ?_)
                obtain ⟨oan_50, oaT_51, oaF_52, e_53, hP, hD9⟩ := hB
                rw [ht] at hP
                have hD : va_D A (cMd h q1 q2 cA cB 0 ct tf ff otd_13 oan_50 qb pa oaT_51 oaF_52 dg fi lo) := hD9.weaken (fun _ _ _ h => hFc _ h)
                refine lv_goto (tgt := 227) hx hb dX3_scale_129 (by decide) ?_
                refine lv_aload_n hx hb dX3_scale_227 rfl (lv_at hl 1 rfl) ?_
                refine lv_iload_n hx hb dX3_scale_228 rfl (lv_at hl 4 rfl) ?_
                have hFc := va_free (wc := cMd h q1 q2 cA cB 0 ct tf ff otd_13 oan_50 qb pa oaT_51 oaF_52 dg fi lo) hD hS hA [0, 1, 2] rfl
                refine va_callv (va_runV (As := [.int rc]) (rest := []) ⟨hx, hb, hml, hown, hts⟩ (c_X3_keep l D h q1 q2 cA cB 0 ct tf ff otd_13 oan_50 qb pa oaT_51 oaF_52 dg fi lo rc H.size (M_none_in c_5)) (cwV 1 hts gX3_scale_X3_keep rfl rfl rfl kV_X3_keep ⟨Nat.le_of_ble_eq_true rfl, Nat.le_of_ble_eq_true rfl⟩) ⟨MMB.blind, va_recv hK hP (ci := 2) (q0 := 0) rfl rfl, MMB.pre hK hP hD⟩ rfl rfl hl.1 rfl (lv_room (Nat.le_of_ble_eq_true rfl)) dX3_scale_229 ⟨Nat.le_of_ble_eq_true rfl, Nat.le_of_ble_eq_true rfl⟩) hS (fun q _ h9 => hFc q h9) hFc (fun u9 t9 H locs ht hvm hw hB hz1 hk1 hS => ?_)
                obtain ⟨otf_54, off_55, e_56, hP, hD9⟩ := hB
                rw [ht] at hP
                have hD : va_D A (cMd h q1 q2 cA cB 0 ct otf_54 off_55 otd_13 oan_50 qb pa oaT_51 oaF_52 dg fi lo) := hD9.weaken (fun _ _ _ h => hFc _ h)
                refine lv_aload_n hx hb dX3_scale_232 rfl (lv_at hl 1 rfl) ?_
                refine va_get (v := .int otd_13) (C := RX3) (T := TX3) (N := 13) hx hb hts in_X3 hown hK hP 0 rfl rfl 4 (by decide) w_3 (fun _ h9 => h9) rfl dX3_scale_233 ?_
                have hw : M_scale tf ff ct td an aT aF dg fi lo ra rb rc = (otd_13, 0, otf_54, off_55, otd_13, oan_50, oaT_51, oaF_52, dg, fi, lo) := by unfold M_scale; rw [if_pos c_1, if_pos c_3, if_pos c_5, tup2_e e_9, if_pos c_11, tup5_e e_17, if_neg c_18, if_pos c_22, tup3_e e_53, tup2_e e_56]; try rfl
                exact W.iret hx hb hr (fun t9 ht hW => ⟨⟨_, otd_13, rfl, rfl, ⟨0, otf_54, off_55, otd_13, oan_50, oaT_51, oaF_52, dg, fi, lo, hw, by rw [ht]; exact hP, hD⟩⟩, hS.F ht⟩) hS.2.2 dX3_scale_236
          · refine lv_aload_n hx hb dX3_scale_64 rfl (lv_at hl 1 rfl) ?_
            refine lv_iload_n hx hb dX3_scale_65 rfl (lv_at hl 3 rfl) ?_
            refine vp_callSi (va_cr (va_runV (As := [.int rb]) (rest := []) ⟨hx, hb, hml, hown, hts⟩ (c_X3_nothing l D h q1 q2 cA cB 0 ct tf ff otd_7 oan_8 qb pa aT aF dg fi lo rb (M_none_in c_3)) (cwV 1 hts gX3_scale_X3_nothing rfl rfl rfl kV_X3_nothing ⟨Nat.le_of_ble_eq_true rfl, Nat.le_of_ble_eq_true rfl⟩) ⟨PB.blind, va_recv hK hP (ci := 2) (q0 := 0) rfl rfl, PB.pre hK hP⟩ rfl rfl hl.1 rfl (lv_room (Nat.le_of_ble_eq_true rfl)) dX3_scale_66 ⟨Nat.le_of_ble_eq_true rfl, Nat.le_of_ble_eq_true rfl⟩)) (fun r9 e9 => ?_)
            rw [e9]
            refine lv_if_ne (tgt := 93) hx hb dX3_scale_69 (by decide) (fun c_57 => ?_) (fun c_57 => ?_)
            · refine lv_aload_n hx hb dX3_scale_93 rfl (lv_at hl 1 rfl) ?_
              refine lv_iload_n hx hb dX3_scale_94 rfl (lv_at hl 2 rfl) ?_
              refine lv_iload_n hx hb dX3_scale_95 rfl (lv_at hl 3 rfl) ?_
              refine lv_iload hx hb dX3_scale_96 (lv_at hl 0 rfl) ?_
              have hFc := va_free (wc := cMd h q1 q2 cA cB 0 ct tf ff otd_7 oan_8 qb pa aT aF dg fi lo) hD hS hA [0, 1, 2] rfl
              refine va_calli (va_runV (As := [.int ra, .int rb, .int (bI (if 4 ≤ (M_kind (tf rb.toNatClampNeg) (ff rb.toNatClampNeg)) then false else true))]) (rest := []) ⟨hx, hb, hml, hown, hts⟩ (c_X3_goesOn l D h q1 q2 cA cB 0 ct tf ff otd_7 oan_8 qb pa aT aF dg fi lo ra rb (if 4 ≤ (M_kind (tf rb.toNatClampNeg) (ff rb.toNatClampNeg)) then false else true) H.size (M_none_in c_1) (fun _ => (M_none_in c_3))) (cwV 3 hts gX3_scale_X3_goesOn rfl rfl rfl kV_X3_goesOn ⟨Nat.le_of_ble_eq_true rfl, Nat.le_of_ble_eq_true rfl⟩) ⟨MMB.blind, va_recv hK hP (ci := 2) (q0 := 0) rfl rfl, MMB.pre hK hP hD⟩ rfl rfl hl.1 rfl (lv_room (Nat.le_of_ble_eq_true rfl)) dX3_scale_98 ⟨Nat.le_of_ble_eq_true rfl, Nat.le_of_ble_eq_true rfl⟩) hS (fun q _ h9 => hFc q h9) hFc (fun r9 v_58 t9 H locs ht hvm hw hB hz1 hk1 hS => ?_)
              obtain rfl := hw
              obtain ⟨otd_59, oan_60, oaT_61, oaF_62, e_63, hP, hD9⟩ := hB
              rw [ht] at hP
              have hD : va_D A (cMd h q1 q2 cA cB 0 ct tf ff otd_59 oan_60 qb pa oaT_61 oaF_62 dg fi lo) := hD9.weaken (fun _ _ _ h => hFc _ h)
              refine lv_if_eq (tgt := 227) hx hb dX3_scale_101 (by decide) (fun c_64 => ?_) (fun c_64 => ?_)
              · refine lv_aload_n hx hb dX3_scale_227 rfl (lv_at hl 1 rfl) ?_
                refine lv_iload_n hx hb dX3_scale_228 rfl (lv_at hl 4 rfl) ?_
                have hFc := va_free (wc := cMd h q1 q2 cA cB 0 ct tf ff otd_59 oan_60 qb pa oaT_61 oaF_62 dg fi lo) hD hS hA [0, 1, 2] rfl
                refine va_callv (va_runV (As := [.int rc]) (rest := []) ⟨hx, hb, hml, hown, hts⟩ (c_X3_keep l D h q1 q2 cA cB 0 ct tf ff otd_59 oan_60 qb pa oaT_61 oaF_62 dg fi lo rc H.size (M_none_in c_5)) (cwV 1 hts gX3_scale_X3_keep rfl rfl rfl kV_X3_keep ⟨Nat.le_of_ble_eq_true rfl, Nat.le_of_ble_eq_true rfl⟩) ⟨MMB.blind, va_recv hK hP (ci := 2) (q0 := 0) rfl rfl, MMB.pre hK hP hD⟩ rfl rfl hl.1 rfl (lv_room (Nat.le_of_ble_eq_true rfl)) dX3_scale_229 ⟨Nat.le_of_ble_eq_true rfl, Nat.le_of_ble_eq_true rfl⟩) hS (fun q _ h9 => hFc q h9) hFc (fun u9 t9 H locs ht hvm hw hB hz1 hk1 hS => ?_)
                obtain ⟨otf_65, off_66, e_67, hP, hD9⟩ := hB
                rw [ht] at hP
                have hD : va_D A (cMd h q1 q2 cA cB 0 ct otf_65 off_66 otd_59 oan_60 qb pa oaT_61 oaF_62 dg fi lo) := hD9.weaken (fun _ _ _ h => hFc _ h)
                refine lv_aload_n hx hb dX3_scale_232 rfl (lv_at hl 1 rfl) ?_
                refine va_get (v := .int otd_59) (C := RX3) (T := TX3) (N := 13) hx hb hts in_X3 hown hK hP 0 rfl rfl 4 (by decide) w_3 (fun _ h9 => h9) rfl dX3_scale_233 ?_
                have hw : M_scale tf ff ct td an aT aF dg fi lo ra rb rc = (otd_59, 0, otf_65, off_66, otd_59, oan_60, oaT_61, oaF_62, dg, fi, lo) := by unfold M_scale; rw [if_pos c_1, if_pos c_3, if_pos c_5, tup2_e e_9, if_neg c_11, if_neg c_57, tup5_e e_63, if_pos c_64, tup2_e e_67]; try rfl
                exact W.iret hx hb hr (fun t9 ht hW => ⟨⟨_, otd_59, rfl, rfl, ⟨0, otf_65, off_66, otd_59, oan_60, oaT_61, oaF_62, dg, fi, lo, hw, by rw [ht]; exact hP, hD⟩⟩, hS.F ht⟩) hS.2.2 dX3_scale_236
              · refine lv_aload_n hx hb dX3_scale_104 rfl (lv_at hl 1 rfl) ?_
                refine lv_iload_n hx hb dX3_scale_105 rfl (lv_at hl 2 rfl) ?_
                refine vp_callSi (va_cr (va_runV (As := [.int ra]) (rest := []) ⟨hx, hb, hml, hown, hts⟩ (c_X3_kind l D h q1 q2 cA cB 0 ct tf ff otd_59 oan_60 qb pa oaT_61 oaF_62 dg fi lo ra (M_none_in c_1)) (cwV 1 hts gX3_scale_X3_kind rfl rfl rfl kV_X3_kind ⟨Nat.le_of_ble_eq_true rfl, Nat.le_of_ble_eq_true rfl⟩) ⟨PB.blind, va_recv hK hP (ci := 2) (q0 := 0) rfl rfl, PB.pre hK hP⟩ rfl rfl hl.1 rfl (lv_room (Nat.le_of_ble_eq_true rfl)) dX3_scale_106 ⟨Nat.le_of_ble_eq_true rfl, Nat.le_of_ble_eq_true rfl⟩)) (fun r9 e9 => ?_)
                rw [e9]
                refine lv_iconst (v := 4) hx hb dX3_scale_109 (by decide) ?_
                refine lv_icmp_ne (tgt := 132) hx hb dX3_scale_110 (by decide) (fun c_68 => ?_) (fun c_68 => ?_)
                · refine lv_iconst (v := 0) hx hb dX3_scale_132 (by decide) ?_
                  refine lv_istore (lv' := [(5, .int 0), (4, .int (bI (if 4 ≤ (M_kind (tf rb.toNatClampNeg) (ff rb.toNatClampNeg)) then false else true))), (0, .ref h), (1, .int ra), (2, .int rb), (3, .int rc)]) hx hb dX3_scale_133 hl (by decide) rfl (fun ls hl => ?_)
                  refine lv_aload_n hx hb dX3_scale_135 rfl (lv_at hl 2 rfl) ?_
                  refine lv_iload_n hx hb dX3_scale_136 rfl (lv_at hl 4 rfl) ?_
                  refine vp_callSi (va_cr (va_runV (As := [.int rb]) (rest := []) ⟨hx, hb, hml, hown, hts⟩ (c_X3_nothing l D h q1 q2 cA cB 0 ct tf ff otd_59 oan_60 qb pa oaT_61 oaF_62 dg fi lo rb (M_none_in c_3)) (cwV 1 hts gX3_scale_X3_nothing rfl rfl rfl kV_X3_nothing ⟨Nat.le_of_ble_eq_true rfl, Nat.le_of_ble_eq_true rfl⟩) ⟨PB.blind, va_recv hK hP (ci := 2) (q0 := 0) rfl rfl, PB.pre hK hP⟩ rfl rfl hl.1 rfl (lv_room (Nat.le_of_ble_eq_true rfl)) dX3_scale_137 ⟨Nat.le_of_ble_eq_true rfl, Nat.le_of_ble_eq_true rfl⟩)) (fun r9 e9 => ?_)
                  rw [e9]
                  refine lv_if_ne (tgt := 190) hx hb dX3_scale_140 (by decide) (fun c_69 => ?_) (fun c_69 => ?_)
                  · refine lv_aload_n hx hb dX3_scale_190 rfl (lv_at hl 2 rfl) ?_
                    refine lv_aload_n hx hb dX3_scale_191 rfl (lv_at hl 2 rfl) ?_
                    refine lv_iload_n hx hb dX3_scale_192 rfl (lv_at hl 3 rfl) ?_
                    refine vp_callSi (va_cr (va_runV (As := [.int ra]) (rest := [.ref h]) ⟨hx, hb, hml, hown, hts⟩ (c_X3_minus l D h q1 q2 cA cB 0 ct tf ff otd_59 oan_60 qb pa oaT_61 oaF_62 dg fi lo ra (M_none_in c_1)) (cwV 1 hts gX3_scale_X3_minus rfl rfl rfl kV_X3_minus ⟨Nat.le_of_ble_eq_true rfl, Nat.le_of_ble_eq_true rfl⟩) ⟨PB.blind, va_recv hK hP (ci := 2) (q0 := 0) rfl rfl, PB.pre hK hP⟩ rfl rfl hl.1 rfl (lv_room (Nat.le_of_ble_eq_true rfl)) dX3_scale_193 ⟨Nat.le_of_ble_eq_true rfl, Nat.le_of_ble_eq_true rfl⟩)) (fun r9 e9 => ?_)
                    rw [e9]
                    refine lv_aload_n hx hb dX3_scale_196 rfl (lv_at hl 2 rfl) ?_
                    refine va_get (v := .ref q2) (C := RX3) (T := TX3) (N := 13) hx hb hts in_X3 hown hK hP 0 rfl rfl 3 (by decide) w_4 (fun _ h9 => h9) rfl dX3_scale_197 ?_
                    refine lv_iload_n hx hb dX3_scale_200 rfl (lv_at hl 3 rfl) ?_
                    refine va_lald hx hb hK hP 2 1 rfl rfl (M_none_in c_1) dX3_scale_201 ?_
                    refine lv_aload_n hx hb dX3_scale_202 rfl (lv_at hl 2 rfl) ?_
                    refine lv_iload_n hx hb dX3_scale_203 rfl (lv_at hl 3 rfl) ?_
                    refine vp_callSi (va_cr (va_runV (As := [.int ra]) (rest := [.long (ff ra.toNatClampNeg), .int (bI (M_minus (tf ra.toNatClampNeg))), .ref h]) ⟨hx, hb, hml, hown, hts⟩ (c_X3_unit l D h q1 q2 cA cB 0 ct tf ff otd_59 oan_60 qb pa oaT_61 oaF_62 dg fi lo ra (M_none_in c_1)) (cwV 1 hts gX3_scale_X3_unit rfl rfl rfl kV_X3_unit ⟨Nat.le_of_ble_eq_true rfl, Nat.le_of_ble_eq_true rfl⟩) ⟨PB.blind, va_recv hK hP (ci := 2) (q0 := 0) rfl rfl, PB.pre hK hP⟩ rfl rfl hl.1 rfl (lv_room (Nat.le_of_ble_eq_true rfl)) dX3_scale_204 ⟨Nat.le_of_ble_eq_true rfl, Nat.le_of_ble_eq_true rfl⟩)) (fun r9 e9 => ?_)
                    rw [e9]
                    refine lv_aload_n hx hb dX3_scale_207 rfl (lv_at hl 2 rfl) ?_
                    refine lv_iload_n hx hb dX3_scale_208 rfl (lv_at hl 4 rfl) ?_
                    refine vp_callSi (va_cr (va_runV (As := [.int rb]) (rest := [.int (M_unit (tf ra.toNatClampNeg)), .long (ff ra.toNatClampNeg), .int (bI (M_minus (tf ra.toNatClampNeg))), .ref h]) ⟨hx, hb, hml, hown, hts⟩ (c_X3_minus l D h q1 q2 cA cB 0 ct tf ff otd_59 oan_60 qb pa oaT_61 oaF_62 dg fi lo rb (M_none_in c_3)) (cwV 1 hts gX3_scale_X3_minus rfl rfl rfl kV_X3_minus ⟨Nat.le_of_ble_eq_true rfl, Nat.le_of_ble_eq_true rfl⟩) ⟨PB.blind, va_recv hK hP (ci := 2) (q0 := 0) rfl rfl, PB.pre hK hP⟩ rfl rfl hl.1 rfl (lv_room (Nat.le_of_ble_eq_true rfl)) dX3_scale_209 ⟨Nat.le_of_ble_eq_true rfl, Nat.le_of_ble_eq_true rfl⟩)) (fun r9 e9 => ?_)
                    rw [e9]
                    refine q_cut (v := (if bI (M_minus (tf rb.toNatClampNeg)) = 0 then (0 : Int32) else (-0 : Int32))) (pcJ := 223) (rest := [.int (M_unit (tf ra.toNatClampNeg)), .long (ff ra.toNatClampNeg), .int (bI (M_minus (tf ra.toNatClampNeg))), .ref h]) (fun J => ?_) ?_
                    · refine lv_if_eq (tgt := 221) hx hb dX3_scale_212 (by decide) (fun c_70 => ?_) (fun c_70 => ?_)
                      · refine lv_iload hx hb dX3_scale_221 (lv_at hl 0 rfl) ?_
                        exact J _ (by rw [if_pos c_70]; try rfl)
                      · refine lv_iload hx hb dX3_scale_215 (lv_at hl 0 rfl) ?_
                        refine lv_ineg hx hb dX3_scale_217 ?_
                        refine lv_goto (tgt := 223) hx hb dX3_scale_218 (by decide) ?_
                        exact J _ (by rw [if_neg c_70]; try rfl)
                    refine lv_iadd hx hb dX3_scale_223 ?_
                    have hFc := va_free (wc := cMd h q1 q2 cA cB 0 ct tf ff otd_59 oan_60 qb pa oaT_61 oaF_62 dg fi lo) hD hS hA [0, 1, 2] rfl
                    refine va_callv (va_runV (As := [.int (bI (M_minus (tf ra.toNatClampNeg))), .long (ff ra.toNatClampNeg), .int ((M_unit (tf ra.toNatClampNeg)) + (if bI (M_minus (tf rb.toNatClampNeg)) = 0 then (0 : Int32) else (-0 : Int32)))]) (rest := []) ⟨hx, hb, hml, hown, hts⟩ (c_X3_make l D h q1 q2 cA cB 0 ct tf ff otd_59 oan_60 qb pa oaT_61 oaF_62 dg fi lo (M_minus (tf ra.toNatClampNeg)) (ff ra.toNatClampNeg) ((M_unit (tf ra.toNatClampNeg)) + (if bI (M_minus (tf rb.toNatClampNeg)) = 0 then (0 : Int32) else (-0 : Int32))) H.size) (cwV 3 hts gX3_scale_X3_make rfl rfl rfl kV_X3_make ⟨Nat.le_of_ble_eq_true rfl, Nat.le_of_ble_eq_true rfl⟩) ⟨MMB.blind, va_recv hK hP (ci := 2) (q0 := 0) rfl rfl, MMB.pre hK hP hD⟩ rfl rfl hl.1 rfl (lv_room (Nat.le_of_ble_eq_true rfl)) dX3_scale_224 ⟨Nat.le_of_ble_eq_true rfl, Nat.le_of_ble_eq_true rfl⟩) hS (fun q _ h9 => hFc q h9) hFc (fun u9 t9 H locs ht hvm hw hB hz1 hk1 hS => ?_)
                    obtain ⟨otd_71, oan_72, oaT_73, oaF_74, olo_75, e_76, hP, hD9⟩ := hB
                    rw [ht] at hP
                    have hD : va_D A (cMd h q1 q2 cA cB 0 ct tf ff otd_71 oan_72 qb pa oaT_73 oaF_74 dg fi olo_75) := hD9.weaken (fun _ _ _ h => hFc _ h)
                    refine lv_aload_n hx hb dX3_scale_227 rfl (lv_at hl 2 rfl) ?_
                    refine lv_iload_n hx hb dX3_scale_228 rfl (lv_at hl 5 rfl) ?_
                    have hFc := va_free (wc := cMd h q1 q2 cA cB 0 ct tf ff otd_71 oan_72 qb pa oaT_73 oaF_74 dg fi olo_75) hD hS hA [0, 1, 2] rfl
                    refine va_callv (va_runV (As := [.int rc]) (rest := []) ⟨hx, hb, hml, hown, hts⟩ (c_X3_keep l D h q1 q2 cA cB 0 ct tf ff otd_71 oan_72 qb pa oaT_73 oaF_74 dg fi olo_75 rc H.size (M_none_in c_5)) (cwV 1 hts gX3_scale_X3_keep rfl rfl rfl kV_X3_keep ⟨Nat.le_of_ble_eq_true rfl, Nat.le_of_ble_eq_true rfl⟩) ⟨MMB.blind, va_recv hK hP (ci := 2) (q0 := 0) rfl rfl, MMB.pre hK hP hD⟩ rfl rfl hl.1 rfl (lv_room (Nat.le_of_ble_eq_true rfl)) dX3_scale_229 ⟨Nat.le_of_ble_eq_true rfl, Nat.le_of_ble_eq_true rfl⟩) hS (fun q _ h9 => hFc q h9) hFc (fun u9 t9 H locs ht hvm hw hB hz1 hk1 hS => ?_)
                    obtain ⟨otf_77, off_78, e_79, hP, hD9⟩ := hB
                    rw [ht] at hP
                    have hD : va_D A (cMd h q1 q2 cA cB 0 ct otf_77 off_78 otd_71 oan_72 qb pa oaT_73 oaF_74 dg fi olo_75) := hD9.weaken (fun _ _ _ h => hFc _ h)
                    refine lv_aload_n hx hb dX3_scale_232 rfl (lv_at hl 2 rfl) ?_
                    refine va_get (v := .int otd_71) (C := RX3) (T := TX3) (N := 13) hx hb hts in_X3 hown hK hP 0 rfl rfl 4 (by decide) w_3 (fun _ h9 => h9) rfl dX3_scale_233 ?_
                    have hw : M_scale tf ff ct td an aT aF dg fi lo ra rb rc = (otd_71, 0, otf_77, off_78, otd_71, oan_72, oaT_73, oaF_74, dg, fi, olo_75) := by unfold M_scale; rw [if_pos c_1, if_pos c_3, if_pos c_5, tup2_e e_9, if_neg c_11, if_neg c_57, tup5_e e_63, if_neg c_64, if_neg c_68, tup5_e e_76, tup2_e e_79]; try rfl
                    exact W.iret hx hb hr (fun t9 ht hW => ⟨⟨_, otd_71, rfl, rfl, ⟨0, otf_77, off_78, otd_71, oan_72, oaT_73, oaF_74, dg, fi, olo_75, hw, by rw [ht]; exact hP, hD⟩⟩, hS.F ht⟩) hS.2.2 dX3_scale_236
                  · exact absurd c_69 c_57
                · refine lv_aload_n hx hb dX3_scale_113 rfl (lv_at hl 1 rfl) ?_
                  refine lv_aload_n hx hb dX3_scale_114 rfl (lv_at hl 1 rfl) ?_
                  refine va_get (v := .ref q1) (C := RX3) (T := TX3) (N := 13) hx hb hts in_X3 hown hK hP 0 rfl rfl 2 (by decide) w_7 (fun _ h9 => h9) rfl dX3_scale_115 ?_
                  refine lv_iload_n hx hb dX3_scale_118 rfl (lv_at hl 2 rfl) ?_
                  refine va_iald hx hb hK hP 1 0 rfl rfl (M_none_in c_1) dX3_scale_119 ?_
                  refine lv_aload_n hx hb dX3_scale_120 rfl (lv_at hl 1 rfl) ?_
                  refine va_get (v := .ref q2) (C := RX3) (T := TX3) (N := 13) hx hb hts in_X3 hown hK hP 0 rfl rfl 3 (by decide) w_4 (fun _ h9 => h9) rfl dX3_scale_121 ?_
                  refine lv_iload_n hx hb dX3_scale_124 rfl (lv_at hl 2 rfl) ?_
                  refine va_lald hx hb hK hP 2 1 rfl rfl (M_none_in c_1) dX3_scale_125 ?_
                  have hFc := va_free (wc := cMd h q1 q2 cA cB 0 ct tf ff otd_59 oan_60 qb pa oaT_61 oaF_62 dg fi lo) hD hS hA [0, 1, 2] rfl
                  refine va_callv (va_runV (As := [.int (tf ra.toNatClampNeg), .long (ff ra.toNatClampNeg)]) (rest := []) ⟨hx, hb, hml, hown, hts⟩ (c_X3_answer l D h q1 q2 cA cB 0 ct tf ff otd_59 oan_60 qb pa oaT_61 oaF_62 dg fi lo (tf ra.toNatClampNeg) (ff ra.toNatClampNeg) H.size) (cwV 2 hts gX3_scale_X3_answer rfl rfl rfl kV_X3_answer ⟨Nat.le_of_ble_eq_true rfl, Nat.le_of_ble_eq_true rfl⟩) ⟨MMB.blind, va_recv hK hP (ci := 2) (q0 := 0) rfl rfl, MMB.pre hK hP hD⟩ rfl rfl hl.1 rfl (lv_room (Nat.le_of_ble_eq_true rfl)) dX3_scale_126 ⟨Nat.le_of_ble_eq_true rfl, Nat.le_of_ble_eq_true rfl⟩) hS (fun q _ h9 => hFc q h9) hFc (fun u9 t9 H locs ht hvm hw hB hz1 hk1 hS => ?_)
                  obtain ⟨oan_80, oaT_81, oaF_82, e_83, hP, hD9⟩ := hB
                  rw [ht] at hP
                  have hD : va_D A (cMd h q1 q2 cA cB 0 ct tf ff otd_59 oan_80 qb pa oaT_81 oaF_82 dg fi lo) := hD9.weaken (fun _ _ _ h => hFc _ h)
                  refine lv_goto (tgt := 227) hx hb dX3_scale_129 (by decide) ?_
                  refine lv_aload_n hx hb dX3_scale_227 rfl (lv_at hl 1 rfl) ?_
                  refine lv_iload_n hx hb dX3_scale_228 rfl (lv_at hl 4 rfl) ?_
                  have hFc := va_free (wc := cMd h q1 q2 cA cB 0 ct tf ff otd_59 oan_80 qb pa oaT_81 oaF_82 dg fi lo) hD hS hA [0, 1, 2] rfl
                  refine va_callv (va_runV (As := [.int rc]) (rest := []) ⟨hx, hb, hml, hown, hts⟩ (c_X3_keep l D h q1 q2 cA cB 0 ct tf ff otd_59 oan_80 qb pa oaT_81 oaF_82 dg fi lo rc H.size (M_none_in c_5)) (cwV 1 hts gX3_scale_X3_keep rfl rfl rfl kV_X3_keep ⟨Nat.le_of_ble_eq_true rfl, Nat.le_of_ble_eq_true rfl⟩) ⟨MMB.blind, va_recv hK hP (ci := 2) (q0 := 0) rfl rfl, MMB.pre hK hP hD⟩ rfl rfl hl.1 rfl (lv_room (Nat.le_of_ble_eq_true rfl)) dX3_scale_229 ⟨Nat.le_of_ble_eq_true rfl, Nat.le_of_ble_eq_true rfl⟩) hS (fun q _ h9 => hFc q h9) hFc (fun u9 t9 H locs ht hvm hw hB hz1 hk1 hS => ?_)
                  obtain ⟨otf_84, off_85, e_86, hP, hD9⟩ := hB
                  rw [ht] at hP
                  have hD : va_D A (cMd h q1 q2 cA cB 0 ct otf_84 off_85 otd_59 oan_80 qb pa oaT_81 oaF_82 dg fi lo) := hD9.weaken (fun _ _ _ h => hFc _ h)
                  refine lv_aload_n hx hb dX3_scale_232 rfl (lv_at hl 1 rfl) ?_
                  refine va_get (v := .int otd_59) (C := RX3) (T := TX3) (N := 13) hx hb hts in_X3 hown hK hP 0 rfl rfl 4 (by decide) w_3 (fun _ h9 => h9) rfl dX3_scale_233 ?_
                  have hw : M_scale tf ff ct td an aT aF dg fi lo ra rb rc = (otd_59, 0, otf_84, off_85, otd_59, oan_80, oaT_81, oaF_82, dg, fi, lo) := by unfold M_scale; rw [if_pos c_1, if_pos c_3, if_pos c_5, tup2_e e_9, if_neg c_11, if_neg c_57, tup5_e e_63, if_neg c_64, if_pos c_68, tup3_e e_83, tup2_e e_86]; try rfl
                  exact W.iret hx hb hr (fun t9 ht hW => ⟨⟨_, otd_59, rfl, rfl, ⟨0, otf_84, off_85, otd_59, oan_80, oaT_81, oaF_82, dg, fi, lo, hw, by rw [ht]; exact hP, hD⟩⟩, hS.F ht⟩) hS.2.2 dX3_scale_236
            · refine lv_aload_n hx hb dX3_scale_72 rfl (lv_at hl 1 rfl) ?_
              refine lv_iload_n hx hb dX3_scale_73 rfl (lv_at hl 3 rfl) ?_
              have hFc := va_free (wc := cMd h q1 q2 cA cB 0 ct tf ff otd_7 oan_8 qb pa aT aF dg fi lo) hD hS hA [0, 1, 2] rfl
              refine va_callv (va_runV (As := [.int rb]) (rest := []) ⟨hx, hb, hml, hown, hts⟩ (c_X3_apart l D h q1 q2 cA cB 0 ct tf ff otd_7 oan_8 qb pa aT aF dg fi lo rb H.size (M_none_in c_3)) (cwV 1 hts gX3_scale_X3_apart rfl rfl rfl kV_X3_apart ⟨Nat.le_of_ble_eq_true rfl, Nat.le_of_ble_eq_true rfl⟩) ⟨MMB.blind, va_recv hK hP (ci := 2) (q0 := 0) rfl rfl, MMB.pre hK hP hD⟩ rfl rfl hl.1 rfl (lv_room (Nat.le_of_ble_eq_true rfl)) dX3_scale_74 ⟨Nat.le_of_ble_eq_true rfl, Nat.le_of_ble_eq_true rfl⟩) hS (fun q _ h9 => hFc q h9) hFc (fun u9 t9 H locs ht hvm hw hB hz1 hk1 hS => ?_)
              obtain ⟨odg_87, ofi_88, e_89, hP, hD9⟩ := hB
              rw [ht] at hP
              have hD : va_D A (cMd h q1 q2 cA cB 0 ct tf ff otd_7 oan_8 qb pa aT aF odg_87 ofi_88 lo) := hD9.weaken (fun _ _ _ h => hFc _ h)
              refine lv_aload_n hx hb dX3_scale_77 rfl (lv_at hl 1 rfl) ?_
              refine va_get (v := .int ofi_88) (C := RX3) (T := TX3) (N := 13) hx hb hts in_X3 hown hK hP 0 rfl rfl 11 (by decide) w_5 (fun _ h9 => h9) rfl dX3_scale_78 ?_
              refine lv_bipush (v := 14) hx hb dX3_scale_81 (by decide) ?_
              refine q_cut (v := bI (if 14 ≤ ofi_88 then false else true)) (pcJ := 91) (rest := []) (fun J => ?_) ?_
              · refine lv_icmp_ge (tgt := 90) hx hb dX3_scale_83 (by decide) (fun c_90 => ?_) (fun c_90 => ?_)
                · refine lv_iconst (v := 0) hx hb dX3_scale_90 (by decide) ?_
                  exact J _ (by rw [if_pos c_90]; try rfl)
                · refine lv_iconst (v := 1) hx hb dX3_scale_86 (by decide) ?_
                  refine lv_goto (tgt := 91) hx hb dX3_scale_87 (by decide) ?_
                  exact J _ (by rw [if_neg c_90]; try rfl)
              refine lv_istore (lv' := [(4, .int (bI (if 14 ≤ ofi_88 then false else true))), (0, .ref h), (1, .int ra), (2, .int rb), (3, .int rc)]) hx hb dX3_scale_91 hl (by decide) rfl (fun ls hl => ?_)
              refine lv_aload_n hx hb dX3_scale_93 rfl (lv_at hl 1 rfl) ?_
              refine lv_iload_n hx hb dX3_scale_94 rfl (lv_at hl 2 rfl) ?_
              refine lv_iload_n hx hb dX3_scale_95 rfl (lv_at hl 3 rfl) ?_
              refine lv_iload hx hb dX3_scale_96 (lv_at hl 0 rfl) ?_
              have hFc := va_free (wc := cMd h q1 q2 cA cB 0 ct tf ff otd_7 oan_8 qb pa aT aF odg_87 ofi_88 lo) hD hS hA [0, 1, 2] rfl
              refine va_calli (va_runV (As := [.int ra, .int rb, .int (bI (if 14 ≤ ofi_88 then false else true))]) (rest := []) ⟨hx, hb, hml, hown, hts⟩ (c_X3_goesOn l D h q1 q2 cA cB 0 ct tf ff otd_7 oan_8 qb pa aT aF odg_87 ofi_88 lo ra rb (if 14 ≤ ofi_88 then false else true) H.size (M_none_in c_1) (fun _ => (M_none_in c_3))) (cwV 3 hts gX3_scale_X3_goesOn rfl rfl rfl kV_X3_goesOn ⟨Nat.le_of_ble_eq_true rfl, Nat.le_of_ble_eq_true rfl⟩) ⟨MMB.blind, va_recv hK hP (ci := 2) (q0 := 0) rfl rfl, MMB.pre hK hP hD⟩ rfl rfl hl.1 rfl (lv_room (Nat.le_of_ble_eq_true rfl)) dX3_scale_98 ⟨Nat.le_of_ble_eq_true rfl, Nat.le_of_ble_eq_true rfl⟩) hS (fun q _ h9 => hFc q h9) hFc (fun r9 v_91 t9 H locs ht hvm hw hB hz1 hk1 hS => ?_)
              obtain rfl := hw
              obtain ⟨otd_92, oan_93, oaT_94, oaF_95, e_96, hP, hD9⟩ := hB
              rw [ht] at hP
              have hD : va_D A (cMd h q1 q2 cA cB 0 ct tf ff otd_92 oan_93 qb pa oaT_94 oaF_95 odg_87 ofi_88 lo) := hD9.weaken (fun _ _ _ h => hFc _ h)
              refine lv_if_eq (tgt := 227) hx hb dX3_scale_101 (by decide) (fun c_97 => ?_) (fun c_97 => ?_)
              · refine lv_aload_n hx hb dX3_scale_227 rfl (lv_at hl 1 rfl) ?_
                refine lv_iload_n hx hb dX3_scale_228 rfl (lv_at hl 4 rfl) ?_
                have hFc := va_free (wc := cMd h q1 q2 cA cB 0 ct tf ff otd_92 oan_93 qb pa oaT_94 oaF_95 odg_87 ofi_88 lo) hD hS hA [0, 1, 2] rfl
                refine va_callv (va_runV (As := [.int rc]) (rest := []) ⟨hx, hb, hml, hown, hts⟩ (c_X3_keep l D h q1 q2 cA cB 0 ct tf ff otd_92 oan_93 qb pa oaT_94 oaF_95 odg_87 ofi_88 lo rc H.size (M_none_in c_5)) (cwV 1 hts gX3_scale_X3_keep rfl rfl rfl kV_X3_keep ⟨Nat.le_of_ble_eq_true rfl, Nat.le_of_ble_eq_true rfl⟩) ⟨MMB.blind, va_recv hK hP (ci := 2) (q0 := 0) rfl rfl, MMB.pre hK hP hD⟩ rfl rfl hl.1 rfl (lv_room (Nat.le_of_ble_eq_true rfl)) dX3_scale_229 ⟨Nat.le_of_ble_eq_true rfl, Nat.le_of_ble_eq_true rfl⟩) hS (fun q _ h9 => hFc q h9) hFc (fun u9 t9 H locs ht hvm hw hB hz1 hk1 hS => ?_)
                obtain ⟨otf_98, off_99, e_100, hP, hD9⟩ := hB
                rw [ht] at hP
                have hD : va_D A (cMd h q1 q2 cA cB 0 ct otf_98 off_99 otd_92 oan_93 qb pa oaT_94 oaF_95 odg_87 ofi_88 lo) := hD9.weaken (fun _ _ _ h => hFc _ h)
                refine lv_aload_n hx hb dX3_scale_232 rfl (lv_at hl 1 rfl) ?_
                refine va_get (v := .int otd_92) (C := RX3) (T := TX3) (N := 13) hx hb hts in_X3 hown hK hP 0 rfl rfl 4 (by decide) w_3 (fun _ h9 => h9) rfl dX3_scale_233 ?_
                have hw : M_scale tf ff ct td an aT aF dg fi lo ra rb rc = (otd_92, 0, otf_98, off_99, otd_92, oan_93, oaT_94, oaF_95, odg_87, ofi_88, lo) := by unfold M_scale; rw [if_pos c_1, if_pos c_3, if_pos c_5, tup2_e e_9, if_neg c_11, if_pos c_57, tup2_e e_89, tup5_e e_96, if_pos c_97, tup2_e e_100]; try rfl
                exact W.iret hx hb hr (fun t9 ht hW => ⟨⟨_, otd_92, rfl, rfl, ⟨0, otf_98, off_99, otd_92, oan_93, oaT_94, oaF_95, odg_87, ofi_88, lo, hw, by rw [ht]; exact hP, hD⟩⟩, hS.F ht⟩) hS.2.2 dX3_scale_236
              · refine lv_aload_n hx hb dX3_scale_104 rfl (lv_at hl 1 rfl) ?_
                refine lv_iload_n hx hb dX3_scale_105 rfl (lv_at hl 2 rfl) ?_
                refine vp_callSi (va_cr (va_runV (As := [.int ra]) (rest := []) ⟨hx, hb, hml, hown, hts⟩ (c_X3_kind l D h q1 q2 cA cB 0 ct tf ff otd_92 oan_93 qb pa oaT_94 oaF_95 odg_87 ofi_88 lo ra (M_none_in c_1)) (cwV 1 hts gX3_scale_X3_kind rfl rfl rfl kV_X3_kind ⟨Nat.le_of_ble_eq_true rfl, Nat.le_of_ble_eq_true rfl⟩) ⟨PB.blind, va_recv hK hP (ci := 2) (q0 := 0) rfl rfl, PB.pre hK hP⟩ rfl rfl hl.1 rfl (lv_room (Nat.le_of_ble_eq_true rfl)) dX3_scale_106 ⟨Nat.le_of_ble_eq_true rfl, Nat.le_of_ble_eq_true rfl⟩)) (fun r9 e9 => ?_)
                rw [e9]
                refine lv_iconst (v := 4) hx hb dX3_scale_109 (by decide) ?_
                refine lv_icmp_ne (tgt := 132) hx hb dX3_scale_110 (by decide) (fun c_101 => ?_) (fun c_101 => ?_)
                · refine lv_iconst (v := 0) hx hb dX3_scale_132 (by decide) ?_
                  refine lv_istore (lv' := [(5, .int 0), (4, .int (bI (if 14 ≤ ofi_88 then false else true))), (0, .ref h), (1, .int ra), (2, .int rb), (3, .int rc)]) hx hb dX3_scale_133 hl (by decide) rfl (fun ls hl => ?_)
                  refine lv_aload_n hx hb dX3_scale_135 rfl (lv_at hl 2 rfl) ?_
                  refine lv_iload_n hx hb dX3_scale_136 rfl (lv_at hl 4 rfl) ?_
                  refine vp_callSi (va_cr (va_runV (As := [.int rb]) (rest := []) ⟨hx, hb, hml, hown, hts⟩ (c_X3_nothing l D h q1 q2 cA cB 0 ct tf ff otd_92 oan_93 qb pa oaT_94 oaF_95 odg_87 ofi_88 lo rb (M_none_in c_3)) (cwV 1 hts gX3_scale_X3_nothing rfl rfl rfl kV_X3_nothing ⟨Nat.le_of_ble_eq_true rfl, Nat.le_of_ble_eq_true rfl⟩) ⟨PB.blind, va_recv hK hP (ci := 2) (q0 := 0) rfl rfl, PB.pre hK hP⟩ rfl rfl hl.1 rfl (lv_room (Nat.le_of_ble_eq_true rfl)) dX3_scale_137 ⟨Nat.le_of_ble_eq_true rfl, Nat.le_of_ble_eq_true rfl⟩)) (fun r9 e9 => ?_)
                  rw [e9]
                  refine lv_if_ne (tgt := 190) hx hb dX3_scale_140 (by decide) (fun c_102 => ?_) (fun c_102 => ?_)
                  · exact absurd c_57 c_102
                  · refine lv_aload_n hx hb dX3_scale_143 rfl (lv_at hl 2 rfl) ?_
                    refine lv_iload_n hx hb dX3_scale_144 rfl (lv_at hl 4 rfl) ?_
                    have hFc := va_free (wc := cMd h q1 q2 cA cB 0 ct tf ff otd_92 oan_93 qb pa oaT_94 oaF_95 odg_87 ofi_88 lo) hD hS hA [0, 1, 2] rfl
                    refine va_callv (va_runV (As := [.int rb]) (rest := []) ⟨hx, hb, hml, hown, hts⟩ (c_X3_apart l D h q1 q2 cA cB 0 ct tf ff otd_92 oan_93 qb pa oaT_94 oaF_95 odg_87 ofi_88 lo rb H.size (M_none_in c_3)) (cwV 1 hts gX3_scale_X3_apart rfl rfl rfl kV_X3_apart ⟨Nat.le_of_ble_eq_true rfl, Nat.le_of_ble_eq_true rfl⟩) ⟨MMB.blind, va_recv hK hP (ci := 2) (q0 := 0) rfl rfl, MMB.pre hK hP hD⟩ rfl rfl hl.1 rfl (lv_room (Nat.le_of_ble_eq_true rfl)) dX3_scale_145 ⟨Nat.le_of_ble_eq_true rfl, Nat.le_of_ble_eq_true rfl⟩) hS (fun q _ h9 => hFc q h9) hFc (fun u9 t9 H locs ht hvm hw hB hz1 hk1 hS => ?_)
                    obtain ⟨odg_103, ofi_104, e_105, hP, hD9⟩ := hB
                    rw [ht] at hP
                    have hD : va_D A (cMd h q1 q2 cA cB 0 ct tf ff otd_92 oan_93 qb pa oaT_94 oaF_95 odg_103 ofi_104 lo) := hD9.weaken (fun _ _ _ h => hFc _ h)
                    refine lv_iconst (v := 0) hx hb dX3_scale_148 (by decide) ?_
                    refine lv_istore (lv' := [(6, .int 0), (5, .int 0), (4, .int (bI (if 14 ≤ ofi_88 then false else true))), (0, .ref h), (1, .int ra), (2, .int rb), (3, .int rc)]) hx hb dX3_scale_149 hl (by decide) rfl (fun ls hl => ?_)
                    have EXIT : ∀ (v1 : Int32) (v2 : Int32), M_scL odg_103 ofi_104 ((ofi_104.toInt + 1).toNat + 1) 0 0 = (v1, v2) → ∀ (H : Heap) (locs : List Loc) (ls : Array Slot), va_P D vwCl (cMd h q1 q2 cA cB 0 ct tf ff otd_92 oan_93 qb pa oaT_94 oaF_95 odg_103 ofi_104 lo) H → va_D A (cMd h q1 q2 cA cB 0 ct tf ff otd_92 oan_93 qb pa oaT_94 oaF_95 odg_103 ofi_104 lo) → va_S A s.heap H locs → lv_has ls 7 [(6, .int v2), (5, .int v1), (4, .int (bI (if 14 ≤ ofi_88 then false else true))), (0, .ref h), (1, .int ra), (2, .int rb), (3, .int rc)] → W p l e (headSpec wsX3_scale ({ frames := 3, cells := 0, slots := 0, locals := 81 } : Room)).room s m ([.ref h, .int ra, .int rb, .int rc]).toArray below meth c H locs 0 0 (MQ below (va_Qi (fun (r u : Int32) => r = u) (fun u t => ∃ (w_cd : Int32) (w_tf : Nat → Int32) (w_ff : Nat → Int64) (w_td : Int32) (w_an : Bool) (w_aT : Int32) (w_aF : Int64) (w_dg : Int64) (w_fi : Int32) (w_lo : Bool), M_scale tf ff ct td an aT aF dg fi lo ra rb rc = (u, w_cd, w_tf, w_ff, w_td, w_an, w_aT, w_aF, w_dg, w_fi, w_lo) ∧ va_P D vwCl (cMd h q1 q2 cA cB w_cd ct w_tf w_ff w_td w_an qb pa w_aT w_aF w_dg w_fi w_lo) t.heap ∧ va_D A (cMd h q1 q2 cA cB w_cd ct w_tf w_ff w_td w_an qb pa w_aT w_aF w_dg w_fi w_lo)) A) ([.ref h, .int ra, .int rb, .int rc]).toArray s 0 0 A) (F0 m 190 ls []) := by
                      intro v1 v2 e_106 H locs ls hP hD hS hl
                      refine lv_aload_n hx hb dX3_scale_190 rfl (lv_at hl 3 rfl) ?_
                      refine lv_aload_n hx hb dX3_scale_191 rfl (lv_at hl 3 rfl) ?_
                      refine lv_iload_n hx hb dX3_scale_192 rfl (lv_at hl 4 rfl) ?_
                      refine vp_callSi (va_cr (va_runV (As := [.int ra]) (rest := [.ref h]) ⟨hx, hb, hml, hown, hts⟩ (c_X3_minus l D h q1 q2 cA cB 0 ct tf ff otd_92 oan_93 qb pa oaT_94 oaF_95 odg_103 ofi_104 lo ra (M_none_in c_1)) (cwV 1 hts gX3_scale_X3_minus rfl rfl rfl kV_X3_minus ⟨Nat.le_of_ble_eq_true rfl, Nat.le_of_ble_eq_true rfl⟩) ⟨PB.blind, va_recv hK hP (ci := 2) (q0 := 0) rfl rfl, PB.pre hK hP⟩ rfl rfl hl.1 rfl (lv_room (Nat.le_of_ble_eq_true rfl)) dX3_scale_193 ⟨Nat.le_of_ble_eq_true rfl, Nat.le_of_ble_eq_true rfl⟩)) (fun r9 e9 => ?_)
                      rw [e9]
                      refine lv_aload_n hx hb dX3_scale_196 rfl (lv_at hl 3 rfl) ?_
                      refine va_get (v := .ref q2) (C := RX3) (T := TX3) (N := 13) hx hb hts in_X3 hown hK hP 0 rfl rfl 3 (by decide) w_4 (fun _ h9 => h9) rfl dX3_scale_197 ?_
                      refine lv_iload_n hx hb dX3_scale_200 rfl (lv_at hl 4 rfl) ?_
                      refine va_lald hx hb hK hP 2 1 rfl rfl (M_none_in c_1) dX3_scale_201 ?_
                      refine lv_aload_n hx hb dX3_scale_202 rfl (lv_at hl 3 rfl) ?_
                      refine lv_iload_n hx hb dX3_scale_203 rfl (lv_at hl 4 rfl) ?_
                      refine vp_callSi (va_cr (va_runV (As := [.int ra]) (rest := [.long (ff ra.toNatClampNeg), .int (bI (M_minus (tf ra.toNatClampNeg))), .ref h]) ⟨hx, hb, hml, hown, hts⟩ (c_X3_unit l D h q1 q2 cA cB 0 ct tf ff otd_92 oan_93 qb pa oaT_94 oaF_95 odg_103 ofi_104 lo ra (M_none_in c_1)) (cwV 1 hts gX3_scale_X3_unit rfl rfl rfl kV_X3_unit ⟨Nat.le_of_ble_eq_true rfl, Nat.le_of_ble_eq_true rfl⟩) ⟨PB.blind, va_recv hK hP (ci := 2) (q0 := 0) rfl rfl, PB.pre hK hP⟩ rfl rfl hl.1 rfl (lv_room (Nat.le_of_ble_eq_true rfl)) dX3_scale_204 ⟨Nat.le_of_ble_eq_true rfl, Nat.le_of_ble_eq_true rfl⟩)) (fun r9 e9 => ?_)
                      rw [e9]
                      refine lv_aload_n hx hb dX3_scale_207 rfl (lv_at hl 3 rfl) ?_
                      refine lv_iload_n hx hb dX3_scale_208 rfl (lv_at hl 5 rfl) ?_
                      refine vp_callSi (va_cr (va_runV (As := [.int rb]) (rest := [.int (M_unit (tf ra.toNatClampNeg)), .long (ff ra.toNatClampNeg), .int (bI (M_minus (tf ra.toNatClampNeg))), .ref h]) ⟨hx, hb, hml, hown, hts⟩ (c_X3_minus l D h q1 q2 cA cB 0 ct tf ff otd_92 oan_93 qb pa oaT_94 oaF_95 odg_103 ofi_104 lo rb (M_none_in c_3)) (cwV 1 hts gX3_scale_X3_minus rfl rfl rfl kV_X3_minus ⟨Nat.le_of_ble_eq_true rfl, Nat.le_of_ble_eq_true rfl⟩) ⟨PB.blind, va_recv hK hP (ci := 2) (q0 := 0) rfl rfl, PB.pre hK hP⟩ rfl rfl hl.1 rfl (lv_room (Nat.le_of_ble_eq_true rfl)) dX3_scale_209 ⟨Nat.le_of_ble_eq_true rfl, Nat.le_of_ble_eq_true rfl⟩)) (fun r9 e9 => ?_)
                      rw [e9]
                      refine q_cut (v := (if bI (M_minus (tf rb.toNatClampNeg)) = 0 then v1 else (-v1))) (pcJ := 223) (rest := [.int (M_unit (tf ra.toNatClampNeg)), .long (ff ra.toNatClampNeg), .int (bI (M_minus (tf ra.toNatClampNeg))), .ref h]) (fun J => ?_) ?_
                      · refine lv_if_eq (tgt := 221) hx hb dX3_scale_212 (by decide) (fun c_107 => ?_) (fun c_107 => ?_)
                        · refine lv_iload hx hb dX3_scale_221 (lv_at hl 1 rfl) ?_
                          exact J _ (by rw [if_pos c_107]; try rfl)
                        · refine lv_iload hx hb dX3_scale_215 (lv_at hl 1 rfl) ?_
                          refine lv_ineg hx hb dX3_scale_217 ?_
                          refine lv_goto (tgt := 223) hx hb dX3_scale_218 (by decide) ?_
                          exact J _ (by rw [if_neg c_107]; try rfl)
                      refine lv_iadd hx hb dX3_scale_223 ?_
                      have hFc := va_free (wc := cMd h q1 q2 cA cB 0 ct tf ff otd_92 oan_93 qb pa oaT_94 oaF_95 odg_103 ofi_104 lo) hD hS hA [0, 1, 2] rfl
                      refine va_callv (va_runV (As := [.int (bI (M_minus (tf ra.toNatClampNeg))), .long (ff ra.toNatClampNeg), .int ((M_unit (tf ra.toNatClampNeg)) + (if bI (M_minus (tf rb.toNatClampNeg)) = 0 then v1 else (-v1)))]) (rest := []) ⟨hx, hb, hml, hown, hts⟩ (c_X3_make l D h q1 q2 cA cB 0 ct tf ff otd_92 oan_93 qb pa oaT_94 oaF_95 odg_103 ofi_104 lo (M_minus (tf ra.toNatClampNeg)) (ff ra.toNatClampNeg) ((M_unit (tf ra.toNatClampNeg)) + (if bI (M_minus (tf rb.toNatClampNeg)) = 0 then v1 else (-v1))) H.size) (cwV 3 hts gX3_scale_X3_make rfl rfl rfl kV_X3_make ⟨Nat.le_of_ble_eq_true rfl, Nat.le_of_ble_eq_true rfl⟩) ⟨MMB.blind, va_recv hK hP (ci := 2) (q0 := 0) rfl rfl, MMB.pre hK hP hD⟩ rfl rfl hl.1 rfl (lv_room (Nat.le_of_ble_eq_true rfl)) dX3_scale_224 ⟨Nat.le_of_ble_eq_true rfl, Nat.le_of_ble_eq_true rfl⟩) hS (fun q _ h9 => hFc q h9) hFc (fun u9 t9 H locs ht hvm hw hB hz1 hk1 hS => ?_)
                      obtain ⟨otd_108, oan_109, oaT_110, oaF_111, olo_112, e_113, hP, hD9⟩ := hB
                      rw [ht] at hP
                      have hD : va_D A (cMd h q1 q2 cA cB 0 ct tf ff otd_108 oan_109 qb pa oaT_110 oaF_111 odg_103 ofi_104 olo_112) := hD9.weaken (fun _ _ _ h => hFc _ h)
                      refine lv_aload_n hx hb dX3_scale_227 rfl (lv_at hl 3 rfl) ?_
                      refine lv_iload_n hx hb dX3_scale_228 rfl (lv_at hl 6 rfl) ?_
                      have hFc := va_free (wc := cMd h q1 q2 cA cB 0 ct tf ff otd_108 oan_109 qb pa oaT_110 oaF_111 odg_103 ofi_104 olo_112) hD hS hA [0, 1, 2] rfl
                      refine va_callv (va_runV (As := [.int rc]) (rest := []) ⟨hx, hb, hml, hown, hts⟩ (c_X3_keep l D h q1 q2 cA cB 0 ct tf ff otd_108 oan_109 qb pa oaT_110 oaF_111 odg_103 ofi_104 olo_112 rc H.size (M_none_in c_5)) (cwV 1 hts gX3_scale_X3_keep rfl rfl rfl kV_X3_keep ⟨Nat.le_of_ble_eq_true rfl, Nat.le_of_ble_eq_true rfl⟩) ⟨MMB.blind, va_recv hK hP (ci := 2) (q0 := 0) rfl rfl, MMB.pre hK hP hD⟩ rfl rfl hl.1 rfl (lv_room (Nat.le_of_ble_eq_true rfl)) dX3_scale_229 ⟨Nat.le_of_ble_eq_true rfl, Nat.le_of_ble_eq_true rfl⟩) hS (fun q _ h9 => hFc q h9) hFc (fun u9 t9 H locs ht hvm hw hB hz1 hk1 hS => ?_)
                      obtain ⟨otf_114, off_115, e_116, hP, hD9⟩ := hB
                      rw [ht] at hP
                      have hD : va_D A (cMd h q1 q2 cA cB 0 ct otf_114 off_115 otd_108 oan_109 qb pa oaT_110 oaF_111 odg_103 ofi_104 olo_112) := hD9.weaken (fun _ _ _ h => hFc _ h)
                      refine lv_aload_n hx hb dX3_scale_232 rfl (lv_at hl 3 rfl) ?_
                      refine va_get (v := .int otd_108) (C := RX3) (T := TX3) (N := 13) hx hb hts in_X3 hown hK hP 0 rfl rfl 4 (by decide) w_3 (fun _ h9 => h9) rfl dX3_scale_233 ?_
                      have hw : M_scale tf ff ct td an aT aF dg fi lo ra rb rc = (otd_108, 0, otf_114, off_115, otd_108, oan_109, oaT_110, oaF_111, odg_103, ofi_104, olo_112) := by unfold M_scale; rw [if_pos c_1, if_pos c_3, if_pos c_5, tup2_e e_9, if_neg c_11, if_pos c_57, tup2_e e_89, tup5_e e_96, if_neg c_97, if_neg c_101, tup2_e e_105, tup2_e e_106, tup5_e e_113, tup2_e e_116]; try rfl
                      exact W.iret hx hb hr (fun t9 ht hW => ⟨⟨_, otd_108, rfl, rfl, ⟨0, otf_114, off_115, otd_108, oan_109, oaT_110, oaF_111, odg_103, ofi_104, olo_112, hw, by rw [ht]; exact hP, hD⟩⟩, hS.F ht⟩) hS.2.2 dX3_scale_236
                    have LOOP : ∀ (n : Nat) (v1 : Int32) (v2 : Int32), (ofi_104.toInt + 1 - v2.toInt).toNat < n → M_scL odg_103 ofi_104 n v1 v2 = M_scL odg_103 ofi_104 ((ofi_104.toInt + 1).toNat + 1) 0 0 → ∀ (H : Heap) (locs : List Loc) (ls : Array Slot), va_P D vwCl (cMd h q1 q2 cA cB 0 ct tf ff otd_92 oan_93 qb pa oaT_94 oaF_95 odg_103 ofi_104 lo) H → va_D A (cMd h q1 q2 cA cB 0 ct tf ff otd_92 oan_93 qb pa oaT_94 oaF_95 odg_103 ofi_104 lo) → va_S A s.heap H locs → lv_has ls 7 [(6, .int v2), (5, .int v1), (4, .int (bI (if 14 ≤ ofi_88 then false else true))), (0, .ref h), (1, .int ra), (2, .int rb), (3, .int rc)] → W p l e (headSpec wsX3_scale ({ frames := 3, cells := 0, slots := 0, locals := 81 } : Room)).room s m ([.ref h, .int ra, .int rb, .int rc]).toArray below meth c H locs 0 0 (MQ below (va_Qi (fun (r u : Int32) => r = u) (fun u t => ∃ (w_cd : Int32) (w_tf : Nat → Int32) (w_ff : Nat → Int64) (w_td : Int32) (w_an : Bool) (w_aT : Int32) (w_aF : Int64) (w_dg : Int64) (w_fi : Int32) (w_lo : Bool), M_scale tf ff ct td an aT aF dg fi lo ra rb rc = (u, w_cd, w_tf, w_ff, w_td, w_an, w_aT, w_aF, w_dg, w_fi, w_lo) ∧ va_P D vwCl (cMd h q1 q2 cA cB w_cd ct w_tf w_ff w_td w_an qb pa w_aT w_aF w_dg w_fi w_lo) t.heap ∧ va_D A (cMd h q1 q2 cA cB w_cd ct w_tf w_ff w_td w_an qb pa w_aT w_aF w_dg w_fi w_lo)) A) ([.ref h, .int ra, .int rb, .int rc]).toArray s 0 0 A) (F0 m 151 ls []) := by
                      intro n
                      induction n with
                      | zero => intro v1 v2 hmu; exact absurd hmu (Nat.not_lt_zero _)
                      | succ n ih =>
                        intro v1 v2 hmu hF H locs ls hP hD hS hl
                        refine lv_iload hx hb dX3_scale_151 (lv_at hl 0 rfl) ?_
                        refine lv_aload_n hx hb dX3_scale_153 rfl (lv_at hl 3 rfl) ?_
                        refine va_get (v := .int ofi_104) (C := RX3) (T := TX3) (N := 13) hx hb hts in_X3 hown hK hP 0 rfl rfl 11 (by decide) w_5 (fun _ h9 => h9) rfl dX3_scale_154 ?_
                        refine lv_icmp_gt (tgt := 190) hx hb dX3_scale_157 (by decide) (fun c_117 => ?_) (fun c_117 => ?_)
                        · rw [M_scL_S odg_103 ofi_104 n v1 v2] at hF; rw [if_pos c_117] at hF
                          exact EXIT v1 v2 hF.symm H locs ls hP hD hS (lv_sub hl [0, 1, 2, 3, 4, 5, 6] rfl)
                        · refine lv_iconst (v := 2) hx hb dX3_scale_160 (by decide) ?_
                          refine lv_iload hx hb dX3_scale_161 (lv_at hl 1 rfl) ?_
                          refine lv_imul hx hb dX3_scale_163 ?_
                          refine lv_aload_n hx hb dX3_scale_164 rfl (lv_at hl 3 rfl) ?_
                          refine va_get (v := .long odg_103) (C := RX3) (T := TX3) (N := 13) hx hb hts in_X3 hown hK hP 0 rfl rfl 10 (by decide) w_6 (fun _ h9 => h9) rfl dX3_scale_165 ?_
                          refine lv_iload hx hb dX3_scale_168 (lv_at hl 0 rfl) ?_
                          refine lv_lshl (v := (jlshl odg_103 v2)) hx hb dX3_scale_170 rfl ?_
                          refine lv_lconst (v := 0) hx hb dX3_scale_171 (by decide) ?_
                          refine q_cut (v := bI (if (jlshl odg_103 v2) < 0 then true else false)) (pcJ := 181) (rest := [.int (2 * v1)]) (fun J => ?_) ?_
                          · refine q_cl_ge (tgt := 180) hx hb dX3_scale_172 dX3_scale_173 (by decide) (fun c_118 => ?_) (fun c_118 => ?_)
                            · refine lv_iconst (v := 0) hx hb dX3_scale_180 (by decide) ?_
                              exact J _ (by rw [if_neg c_118]; try rfl)
                            · refine lv_iconst (v := 1) hx hb dX3_scale_176 (by decide) ?_
                              refine lv_goto (tgt := 181) hx hb dX3_scale_177 (by decide) ?_
                              exact J _ (by rw [if_pos c_118]; try rfl)
                          refine lv_iadd hx hb dX3_scale_181 ?_
                          refine lv_istore (lv' := [(5, .int ((2 * v1) + (bI (if (jlshl odg_103 v2) < 0 then true else false)))), (6, .int v2), (4, .int (bI (if 14 ≤ ofi_88 then false else true))), (0, .ref h), (1, .int ra), (2, .int rb), (3, .int rc)]) hx hb dX3_scale_182 hl (by decide) rfl (fun ls hl => ?_)
                          refine lv_iinc (v := (v2 + 1)) (lv' := [(6, .int (v2 + 1)), (5, .int ((2 * v1) + (bI (if (jlshl odg_103 v2) < 0 then true else false)))), (4, .int (bI (if 14 ≤ ofi_88 then false else true))), (0, .ref h), (1, .int ra), (2, .int rb), (3, .int rc)]) hx hb dX3_scale_184 hl (k := 1) rfl rfl (by decide) rfl (fun ls hl => ?_)
                          refine lv_goto (tgt := 151) hx hb dX3_scale_187 (by decide) ?_
                          exact ih ((2 * v1) + (bI (if (jlshl odg_103 v2) < 0 then true else false))) (v2 + 1) (mu_go (mu_incle c_117 (M_apart_fi e_105)) hmu) (by rw [← hF, M_scL_S odg_103 ofi_104 n v1 v2, if_neg c_117]) H locs ls hP hD hS (lv_sub hl [0, 1, 2, 3, 4, 5, 6] rfl)
                    exact LOOP ((ofi_104.toInt + 1).toNat + 1) 0 0 (mu_01 _) rfl H _ ls hP hD hS (lv_sub hl [0, 1, 2, 3, 4, 5, 6] rfl)
                · refine lv_aload_n hx hb dX3_scale_113 rfl (lv_at hl 1 rfl) ?_
                  refine lv_aload_n hx hb dX3_scale_114 rfl (lv_at hl 1 rfl) ?_
                  refine va_get (v := .ref q1) (C := RX3) (T := TX3) (N := 13) hx hb hts in_X3 hown hK hP 0 rfl rfl 2 (by decide) w_7 (fun _ h9 => h9) rfl dX3_scale_115 ?_
                  refine lv_iload_n hx hb dX3_scale_118 rfl (lv_at hl 2 rfl) ?_
                  refine va_iald hx hb hK hP 1 0 rfl rfl (M_none_in c_1) dX3_scale_119 ?_
                  refine lv_aload_n hx hb dX3_scale_120 rfl (lv_at hl 1 rfl) ?_
                  refine va_get (v := .ref q2) (C := RX3) (T := TX3) (N := 13) hx hb hts in_X3 hown hK hP 0 rfl rfl 3 (by decide) w_4 (fun _ h9 => h9) rfl dX3_scale_121 ?_
                  refine lv_iload_n hx hb dX3_scale_124 rfl (lv_at hl 2 rfl) ?_
                  refine va_lald hx hb hK hP 2 1 rfl rfl (M_none_in c_1) dX3_scale_125 ?_
                  have hFc := va_free (wc := cMd h q1 q2 cA cB 0 ct tf ff otd_92 oan_93 qb pa oaT_94 oaF_95 odg_87 ofi_88 lo) hD hS hA [0, 1, 2] rfl
                  refine va_callv (va_runV (As := [.int (tf ra.toNatClampNeg), .long (ff ra.toNatClampNeg)]) (rest := []) ⟨hx, hb, hml, hown, hts⟩ (c_X3_answer l D h q1 q2 cA cB 0 ct tf ff otd_92 oan_93 qb pa oaT_94 oaF_95 odg_87 ofi_88 lo (tf ra.toNatClampNeg) (ff ra.toNatClampNeg) H.size) (cwV 2 hts gX3_scale_X3_answer rfl rfl rfl kV_X3_answer ⟨Nat.le_of_ble_eq_true rfl, Nat.le_of_ble_eq_true rfl⟩) ⟨MMB.blind, va_recv hK hP (ci := 2) (q0 := 0) rfl rfl, MMB.pre hK hP hD⟩ rfl rfl hl.1 rfl (lv_room (Nat.le_of_ble_eq_true rfl)) dX3_scale_126 ⟨Nat.le_of_ble_eq_true rfl, Nat.le_of_ble_eq_true rfl⟩) hS (fun q _ h9 => hFc q h9) hFc (fun u9 t9 H locs ht hvm hw hB hz1 hk1 hS => ?_)
                  obtain ⟨oan_119, oaT_120, oaF_121, e_122, hP, hD9⟩ := hB
                  rw [ht] at hP
                  have hD : va_D A (cMd h q1 q2 cA cB 0 ct tf ff otd_92 oan_119 qb pa oaT_120 oaF_121 odg_87 ofi_88 lo) := hD9.weaken (fun _ _ _ h => hFc _ h)
                  refine lv_goto (tgt := 227) hx hb dX3_scale_129 (by decide) ?_
                  refine lv_aload_n hx hb dX3_scale_227 rfl (lv_at hl 1 rfl) ?_
                  refine lv_iload_n hx hb dX3_scale_228 rfl (lv_at hl 4 rfl) ?_
                  have hFc := va_free (wc := cMd h q1 q2 cA cB 0 ct tf ff otd_92 oan_119 qb pa oaT_120 oaF_121 odg_87 ofi_88 lo) hD hS hA [0, 1, 2] rfl
                  refine va_callv (va_runV (As := [.int rc]) (rest := []) ⟨hx, hb, hml, hown, hts⟩ (c_X3_keep l D h q1 q2 cA cB 0 ct tf ff otd_92 oan_119 qb pa oaT_120 oaF_121 odg_87 ofi_88 lo rc H.size (M_none_in c_5)) (cwV 1 hts gX3_scale_X3_keep rfl rfl rfl kV_X3_keep ⟨Nat.le_of_ble_eq_true rfl, Nat.le_of_ble_eq_true rfl⟩) ⟨MMB.blind, va_recv hK hP (ci := 2) (q0 := 0) rfl rfl, MMB.pre hK hP hD⟩ rfl rfl hl.1 rfl (lv_room (Nat.le_of_ble_eq_true rfl)) dX3_scale_229 ⟨Nat.le_of_ble_eq_true rfl, Nat.le_of_ble_eq_true rfl⟩) hS (fun q _ h9 => hFc q h9) hFc (fun u9 t9 H locs ht hvm hw hB hz1 hk1 hS => ?_)
                  obtain ⟨otf_123, off_124, e_125, hP, hD9⟩ := hB
                  rw [ht] at hP
                  have hD : va_D A (cMd h q1 q2 cA cB 0 ct otf_123 off_124 otd_92 oan_119 qb pa oaT_120 oaF_121 odg_87 ofi_88 lo) := hD9.weaken (fun _ _ _ h => hFc _ h)
                  refine lv_aload_n hx hb dX3_scale_232 rfl (lv_at hl 1 rfl) ?_
                  refine va_get (v := .int otd_92) (C := RX3) (T := TX3) (N := 13) hx hb hts in_X3 hown hK hP 0 rfl rfl 4 (by decide) w_3 (fun _ h9 => h9) rfl dX3_scale_233 ?_
                  have hw : M_scale tf ff ct td an aT aF dg fi lo ra rb rc = (otd_92, 0, otf_123, off_124, otd_92, oan_119, oaT_120, oaF_121, odg_87, ofi_88, lo) := by unfold M_scale; rw [if_pos c_1, if_pos c_3, if_pos c_5, tup2_e e_9, if_neg c_11, if_pos c_57, tup2_e e_89, tup5_e e_96, if_neg c_97, if_pos c_101, tup3_e e_122, tup2_e e_125]; try rfl
                  exact W.iret hx hb hr (fun t9 ht hW => ⟨⟨_, otd_92, rfl, rfl, ⟨0, otf_123, off_124, otd_92, oan_119, oaT_120, oaF_121, odg_87, ofi_88, lo, hw, by rw [ht]; exact hP, hD⟩⟩, hS.F ht⟩) hS.2.2 dX3_scale_236
        · exact absurd c_6 (by decide)
      · refine lv_iconst (v := 1) hx hb dX3_scale_22 (by decide) ?_
        refine lv_goto (tgt := 27) hx hb dX3_scale_23 (by decide) ?_
        refine va_put (v := .int 1) (ty := .int) (C := RX3) (T := TX3) (N := 13) hx hb hts in_X3 tyX3 tyX3_ok nmX3 hown hK hP hD hS 0 rfl rfl 0 (by decide) w_1 (fun _ h9 => h9) rfl (tyX3_ok 0 (by decide)) rfl rfl (Nat.le_of_ble_eq_true rfl) dX3_scale_27 (fun H locs hP hD hS => ?_)
        have hP : va_P D vwCl (cMd h q1 q2 cA cB 1 ct tf ff td an qb pa aT aF dg fi lo) H := hP
        have hD : va_D A (cMd h q1 q2 cA cB 1 ct tf ff td an qb pa aT aF dg fi lo) := hD
        refine lv_aload_n hx hb dX3_scale_30 rfl (lv_at hl 0 rfl) ?_
        refine va_get (v := .int 1) (C := RX3) (T := TX3) (N := 13) hx hb hts in_X3 hown hK hP 0 rfl rfl 0 (by decide) w_1 (fun _ h9 => h9) rfl dX3_scale_31 ?_
        refine lv_if_le (tgt := 39) hx hb dX3_scale_34 (by decide) (fun c_126 => ?_) (fun c_126 => ?_)
        · exact absurd c_126 (by decide)
        · refine lv_iconst (v := 0) hx hb dX3_scale_37 (by decide) ?_
          have hw : M_scale tf ff ct td an aT aF dg fi lo ra rb rc = (0, 1, tf, ff, td, an, aT, aF, dg, fi, lo) := by unfold M_scale; rw [if_pos c_1, if_pos c_3, if_neg c_5]; try rfl
          exact W.iret hx hb hr (fun t9 ht hW => ⟨⟨_, 0, rfl, rfl, ⟨1, tf, ff, td, an, aT, aF, dg, fi, lo, hw, by rw [ht]; exact hP, hD⟩⟩, hS.F ht⟩) hS.2.2 dX3_scale_38
def M_extract (tf : Nat → Int32) (ff : Nat → Int64) (ct : Int32) (td : Int32) (an : Bool) (aT : Int32) (aF : Int64) (dg : Int64) (fi : Int32) (lo : Bool) (ra : Int32) (rp : Int32) (rc : Int32) : Int32 × Int32 × (Nat → Int32) × (Nat → Int64) × Int32 × Bool × Int32 × Int64 × Int64 × Int32 × Bool :=
  if bI (M_none ra) = 0 then (if bI (M_none rp) = 0 then (if bI (M_none rc) = 0 then (if (if rp = rc then (2 : Int32) else (0 : Int32)) ≤ 0 then (tup2 (M_begin) (fun otd_8 oan_9 =>
            tup5 ((M_goesOn ct otd_8 oan_9 aT aF (tf ra.toNatClampNeg) (ff ra.toNatClampNeg) (-1) (tf (-1 : Int32).toNatClampNeg) (ff (-1 : Int32).toNatClampNeg) true)) (fun v_11 otd_12 oan_13 oaT_14 oaF_15 =>
              if bI v_11 = 0 then (if bI oan_13 = 0 then (otd_12, (if rp = rc then (2 : Int32) else (0 : Int32)), tf, ff, otd_12, oan_13, oaT_14, oaF_15, dg, fi, lo)
                else (tup2 ((M_keep tf ff oan_13 oaT_14 oaF_15 rc)) (fun otf_19 off_20 =>
                    (otd_12, (if rp = rc then (2 : Int32) else (0 : Int32)), (upd otf_19 rp.toNatClampNeg oaT_14), (vp_updL off_20 rp.toNatClampNeg oaF_15), otd_12, oan_13, oaT_14, oaF_15, dg, fi, lo))))
              else if (M_kind (tf ra.toNatClampNeg) (ff ra.toNatClampNeg)) = 4 then (tup3 ((M_answer (tf ra.toNatClampNeg) (ff ra.toNatClampNeg))) (fun oan_62 oaT_63 oaF_64 =>
                  if bI oan_62 = 0 then (otd_12, (if rp = rc then (2 : Int32) else (0 : Int32)), tf, ff, otd_12, oan_62, oaT_63, oaF_64, dg, fi, lo)
                  else (tup2 ((M_keep tf ff oan_62 oaT_63 oaF_64 rc)) (fun otf_67 off_68 =>
                      (otd_12, (if rp = rc then (2 : Int32) else (0 : Int32)), (upd otf_67 rp.toNatClampNeg 32767), (vp_updL off_68 rp.toNatClampNeg (-9223372036854775808)), otd_12, oan_62, oaT_63, oaF_64, dg, fi, lo)))))
              else if bI (M_nothing (tf ra.toNatClampNeg) (ff ra.toNatClampNeg)) = 0 then (tup2 ((M_apart (tf ra.toNatClampNeg) (ff ra.toNatClampNeg))) (fun odg_24 ofi_25 =>
                  tup5 ((M_make ct otd_12 lo (if 0 ≤ ofi_25 then false else true) (if 0 ≤ ofi_25 then (ofi_25).toInt64 else ((-ofi_25)).toInt64) 0)) (fun otd_29 oan_30 oaT_31 oaF_32 olo_33 =>
                    tup5 ((M_make ct otd_29 olo_33 (M_minus (tf ra.toNatClampNeg)) odg_24 (-63))) (fun otd_35 oan_36 oaT_37 oaF_38 olo_39 =>
                      if bI oan_36 = 0 then (otd_35, (if rp = rc then (2 : Int32) else (0 : Int32)), tf, ff, otd_35, oan_36, oaT_37, oaF_38, odg_24, ofi_25, olo_39)
                      else (tup2 ((M_keep tf ff oan_36 oaT_37 oaF_38 rc)) (fun otf_42 off_43 =>
                          (otd_35, (if rp = rc then (2 : Int32) else (0 : Int32)), (upd otf_42 rp.toNatClampNeg oaT_31), (vp_updL off_43 rp.toNatClampNeg oaF_32), otd_35, oan_36, oaT_37, oaF_38, odg_24, ofi_25, olo_39)))))))
              else (tup2 ((M_tell ct otd_12 4)) (fun v_45 otd_46 =>
                  if bI v_45 = 0 then (if bI oan_13 = 0 then (otd_46, (if rp = rc then (2 : Int32) else (0 : Int32)), tf, ff, otd_46, oan_13, oaT_14, oaF_15, dg, fi, lo)
                    else (tup2 ((M_keep tf ff oan_13 oaT_14 oaF_15 rc)) (fun otf_50 off_51 =>
                        (otd_46, (if rp = rc then (2 : Int32) else (0 : Int32)), (upd otf_50 rp.toNatClampNeg 65535), (vp_updL off_51 rp.toNatClampNeg (-9223372036854775808)), otd_46, oan_13, oaT_14, oaF_15, dg, fi, lo))))
                  else (tup3 ((M_answer (if bI (M_minus (tf ra.toNatClampNeg)) = 0 then (0 : Int32) else (32768 : Int32)) 0)) (fun oan_54 oaT_55 oaF_56 =>
                      if bI oan_54 = 0 then (otd_46, (if rp = rc then (2 : Int32) else (0 : Int32)), tf, ff, otd_46, oan_54, oaT_55, oaF_56, dg, fi, lo)
                      else (tup2 ((M_keep tf ff oan_54 oaT_55 oaF_56 rc)) (fun otf_59 off_60 =>
                          (otd_46, (if rp = rc then (2 : Int32) else (0 : Int32)), (upd otf_59 rp.toNatClampNeg 65535), (vp_updL off_60 rp.toNatClampNeg (-9223372036854775808)), otd_46, oan_54, oaT_55, oaF_56, dg, fi, lo))))))))))
        else (0, (if rp = rc then (2 : Int32) else (0 : Int32)), tf, ff, td, an, aT, aF, dg, fi, lo))
      else (0, 1, tf, ff, td, an, aT, aF, dg, fi, lo))
    else (0, 1, tf, ff, td, an, aT, aF, dg, fi, lo))
  else (0, 1, tf, ff, td, an, aT, aF, dg, fi, lo)
theorem kS_X3_extract : yX3_extract.cls ≠ "java/lang/invoke/MethodHandle" ∧ yX3_extract.cls ≠ "java/lang/invoke/VarHandle" ∧ (parseMethodDescriptor yX3_extract.desc).map (fun d => d.parameters.length) = some 3 := by decide +kernel
theorem kV_X3_extract : yX3_extract.cls = RX3 ∧ yX3_extract.cls ≠ "java/lang/invoke/MethodHandle" ∧ yX3_extract.cls ≠ "java/lang/invoke/VarHandle" ∧ (parseMethodDescriptor yX3_extract.desc).map (fun d => d.parameters.length) = some 3 := ⟨rfl, kS_X3_extract⟩
set_option maxHeartbeats 4000000 in
set_option maxRecDepth 100000 in
theorem c_X3_extract (l : Launch) (D : va_G) (h : Nat) (q1 : Nat) (q2 : Nat) (cA : ClassId) (cB : ClassId) (cd : Int32) (ct : Int32) (tf : Nat → Int32) (ff : Nat → Int64) (td : Int32) (an : Bool) (qb : Int32) (pa : Bool) (aT : Int32) (aF : Int64) (dg : Int64) (fi : Int32) (lo : Bool) (ra : Int32) (rp : Int32) (rc : Int32) (sz : Nat) : Met l yX3_extract wsX3_extract ({ frames := 3, cells := 0, slots := 0, locals := 81 } : Room) (va_Pc [.ref h, .int ra, .int rp, .int rc] (MMB D (tRS cA cB) (cMd h q1 q2 cA cB cd ct tf ff td an qb pa aT aF dg fi lo) sz)) (va_Qi (fun (r u : Int32) => r = u) (fun u t => ∃ (w_cd : Int32) (w_tf : Nat → Int32) (w_ff : Nat → Int64) (w_td : Int32) (w_an : Bool) (w_aT : Int32) (w_aF : Int64) (w_dg : Int64) (w_fi : Int32) (w_lo : Bool), M_extract tf ff ct td an aT aF dg fi lo ra rp rc = (u, w_cd, w_tf, w_ff, w_td, w_an, w_aT, w_aF, w_dg, w_fi, w_lo) ∧ va_P D vwCl (cMd h q1 q2 cA cB w_cd ct w_tf w_ff w_td w_an qb pa w_aT w_aF w_dg w_fi w_lo) t.heap ∧ va_D (va_A (cMd h q1 q2 cA cB cd ct tf ff td an qb pa aT aF dg fi lo) sz) (cMd h q1 q2 cA cB w_cd ct w_tf w_ff w_td w_an qb pa w_aT w_aF w_dg w_fi w_lo)) (va_A (cMd h q1 q2 cA cB cd ct tf ff td an qb pa aT aF dg fi lo) sz)) 0 0 (va_A (cMd h q1 q2 cA cB cd ct tf ff td an qb pa aT aF dg fi lo) sz) := by
  refine Met.ofW (cc := cX3_extract) (maxL := 10) (ret := (some .int)) (by decide) rfl ?_
  intro p e s m args below meth c s₁ B hml hv
  obtain ⟨rfl, hsz, hP, hK, hD0⟩ := hv
  have hx := B.exec
  have hb := B.bytes
  have hr := B.returns
  have hts := atoms_spec (ws := wsX3_extract) B.pre
  have hown : s.vm.findClass RX3 = some m.cls := findClass_of_methodNamed B.named
  have hlocks := B.notSynchronized
  have w_1 := hts (.fieldLink RX3 21 "RealStepsModel" "code" "I") (by decide +kernel)
  have in_X3 : ∀ w ∈ wsX30, w ∈ wsX3_extract := by decide +kernel
  have w_3 := hts (.fieldLink RX3 62 "RealStepsModel" "answerTop" "I") (by decide +kernel)
  have w_4 := hts (.fieldLink RX3 65 "RealStepsModel" "answerFraction" "J") (by decide +kernel)
  have w_5 := hts (.fieldLink RX3 68 "RealStepsModel" "answered" "Z") (by decide +kernel)
  have w_6 := hts (.fieldLink RX3 72 "RealStepsModel" "told" "I") (by decide +kernel)
  have w_7 := hts (.fieldLink RX3 13 "RealStepsModel" "top" "[I") (by decide +kernel)
  have w_8 := hts (.fieldLink RX3 17 "RealStepsModel" "fraction" "[J") (by decide +kernel)
  have w_9 := hts (.fieldLink RX3 57 "RealStepsModel" "first" "I") (by decide +kernel)
  have w_10 := hts (.fieldLink RX3 50 "RealStepsModel" "digits" "J") (by decide +kernel)
  have w_11 := hts (.constant RX3 24 (65535)) (by decide +kernel)
  have w_12 := hts (.constantLong RX3 34 (-9223372036854775808)) (by decide +kernel)
  have w_13 := hts (.constant RX3 33 (32768)) (by decide +kernel)
  subst hsz
  have hD := hD0.self (sz := s.heap.size)
  generalize hAe : va_A (cMd h q1 q2 cA cB cd ct tf ff td an qb pa aT aF dg fi lo) s.heap.size = A at hD ⊢
  have hA : ∀ q : Nat, s.heap.size ≤ q → A q := fun q h => by rw [← hAe]; exact Or.inr h
  have hS : va_S A s.heap s.heap [] := va_S.rf
  have hP : va_P D vwCl (cMd h q1 q2 cA cB cd ct tf ff td an qb pa aT aF dg fi lo) s.heap := hP
  have hl := lv_entry ([.ref h, .int ra, .int rp, .int rc]) (n := 10) (Nat.le_of_ble_eq_true rfl)
  rw [lg_entry_eq]
  generalize (lg_sl ([.ref h, .int ra, .int rp, .int rc]) ++ List.replicate (10 - (lg_sl ([.ref h, .int ra, .int rp, .int rc])).length) Slot.unset).toArray = ls at hl ⊢
  have hl : lv_has ls 10 [(0, .ref h), (1, .int ra), (2, .int rp), (3, .int rc)] := hl
  refine lv_aload_n hx hb dX3_extract_0 rfl (lv_at hl 0 rfl) ?_
  refine lv_iload_n hx hb dX3_extract_1 rfl (lv_at hl 1 rfl) ?_
  refine vp_callSi (va_cr (va_runS (As := [.int ra]) (rest := [.ref h]) ⟨hx, hb, hml, hown, hts⟩ (c_X3_none l ra) (va_cwS 1 hts gX3_extract_X3_none rfl rfl rfl kS_X3_none ⟨Nat.le_of_ble_eq_true rfl, Nat.le_of_ble_eq_true rfl⟩) ⟨TB.blind, TB.pre⟩ rfl rfl hl.1 rfl (lv_room (Nat.le_of_ble_eq_true rfl)) dX3_extract_2 ⟨Nat.le_of_ble_eq_true rfl, Nat.le_of_ble_eq_true rfl⟩)) (fun r9 e9 => ?_)
  rw [e9]
  refine lv_if_ne (tgt := 22) hx hb dX3_extract_5 (by decide) (fun c_1 => ?_) (fun c_1 => ?_)
  · refine lv_iconst (v := 1) hx hb dX3_extract_22 (by decide) ?_
    refine lv_goto (tgt := 36) hx hb dX3_extract_23 (by decide) ?_
    refine va_put (v := .int 1) (ty := .int) (C := RX3) (T := TX3) (N := 13) hx hb hts in_X3 tyX3 tyX3_ok nmX3 hown hK hP hD hS 0 rfl rfl 0 (by decide) w_1 (fun _ h9 => h9) rfl (tyX3_ok 0 (by decide)) rfl rfl (Nat.le_of_ble_eq_true rfl) dX3_extract_36 (fun H locs hP hD hS => ?_)
    have hP : va_P D vwCl (cMd h q1 q2 cA cB 1 ct tf ff td an qb pa aT aF dg fi lo) H := hP
    have hD : va_D A (cMd h q1 q2 cA cB 1 ct tf ff td an qb pa aT aF dg fi lo) := hD
    refine lv_aload_n hx hb dX3_extract_39 rfl (lv_at hl 0 rfl) ?_
    refine va_get (v := .int 1) (C := RX3) (T := TX3) (N := 13) hx hb hts in_X3 hown hK hP 0 rfl rfl 0 (by decide) w_1 (fun _ h9 => h9) rfl dX3_extract_40 ?_
    refine lv_if_le (tgt := 48) hx hb dX3_extract_43 (by decide) (fun c_2 => ?_) (fun c_2 => ?_)
    · exact absurd c_2 (by decide)
    · refine lv_iconst (v := 0) hx hb dX3_extract_46 (by decide) ?_
      have hw : M_extract tf ff ct td an aT aF dg fi lo ra rp rc = (0, 1, tf, ff, td, an, aT, aF, dg, fi, lo) := by unfold M_extract; rw [if_neg c_1]; try rfl
      exact W.iret hx hb hr (fun t9 ht hW => ⟨⟨_, 0, rfl, rfl, ⟨1, tf, ff, td, an, aT, aF, dg, fi, lo, hw, by rw [ht]; exact hP, hD⟩⟩, hS.F ht⟩) hS.2.2 dX3_extract_47
  · refine lv_iload_n hx hb dX3_extract_8 rfl (lv_at hl 2 rfl) ?_
    refine vp_callSi (va_cr (va_runS (As := [.int rp]) (rest := [.ref h]) ⟨hx, hb, hml, hown, hts⟩ (c_X3_none l rp) (va_cwS 1 hts gX3_extract_X3_none rfl rfl rfl kS_X3_none ⟨Nat.le_of_ble_eq_true rfl, Nat.le_of_ble_eq_true rfl⟩) ⟨TB.blind, TB.pre⟩ rfl rfl hl.1 rfl (lv_room (Nat.le_of_ble_eq_true rfl)) dX3_extract_9 ⟨Nat.le_of_ble_eq_true rfl, Nat.le_of_ble_eq_true rfl⟩)) (fun r9 e9 => ?_)
    rw [e9]
    refine lv_if_ne (tgt := 22) hx hb dX3_extract_12 (by decide) (fun c_3 => ?_) (fun c_3 => ?_)
    · refine lv_iconst (v := 1) hx hb dX3_extract_22 (by decide) ?_
      refine lv_goto (tgt := 36) hx hb dX3_extract_23 (by decide) ?_
      refine va_put (v := .int 1) (ty := .int) (C := RX3) (T := TX3) (N := 13) hx hb hts in_X3 tyX3 tyX3_ok nmX3 hown hK hP hD hS 0 rfl rfl 0 (by decide) w_1 (fun _ h9 => h9) rfl (tyX3_ok 0 (by decide)) rfl rfl (Nat.le_of_ble_eq_true rfl) dX3_extract_36 (fun H locs hP hD hS => ?_)
      have hP : va_P D vwCl (cMd h q1 q2 cA cB 1 ct tf ff td an qb pa aT aF dg fi lo) H := hP
      have hD : va_D A (cMd h q1 q2 cA cB 1 ct tf ff td an qb pa aT aF dg fi lo) := hD
      refine lv_aload_n hx hb dX3_extract_39 rfl (lv_at hl 0 rfl) ?_
      refine va_get (v := .int 1) (C := RX3) (T := TX3) (N := 13) hx hb hts in_X3 hown hK hP 0 rfl rfl 0 (by decide) w_1 (fun _ h9 => h9) rfl dX3_extract_40 ?_
      refine lv_if_le (tgt := 48) hx hb dX3_extract_43 (by decide) (fun c_4 => ?_) (fun c_4 => ?_)
      · exact absurd c_4 (by decide)
      · refine lv_iconst (v := 0) hx hb dX3_extract_46 (by decide) ?_
        have hw : M_extract tf ff ct td an aT aF dg fi lo ra rp rc = (0, 1, tf, ff, td, an, aT, aF, dg, fi, lo) := by unfold M_extract; rw [if_pos c_1, if_neg c_3]; try rfl
        exact W.iret hx hb hr (fun t9 ht hW => ⟨⟨_, 0, rfl, rfl, ⟨1, tf, ff, td, an, aT, aF, dg, fi, lo, hw, by rw [ht]; exact hP, hD⟩⟩, hS.F ht⟩) hS.2.2 dX3_extract_47
    · refine lv_iload_n hx hb dX3_extract_15 rfl (lv_at hl 3 rfl) ?_
      refine vp_callSi (va_cr (va_runS (As := [.int rc]) (rest := [.ref h]) ⟨hx, hb, hml, hown, hts⟩ (c_X3_none l rc) (va_cwS 1 hts gX3_extract_X3_none rfl rfl rfl kS_X3_none ⟨Nat.le_of_ble_eq_true rfl, Nat.le_of_ble_eq_true rfl⟩) ⟨TB.blind, TB.pre⟩ rfl rfl hl.1 rfl (lv_room (Nat.le_of_ble_eq_true rfl)) dX3_extract_16 ⟨Nat.le_of_ble_eq_true rfl, Nat.le_of_ble_eq_true rfl⟩)) (fun r9 e9 => ?_)
      rw [e9]
      refine lv_if_eq (tgt := 26) hx hb dX3_extract_19 (by decide) (fun c_5 => ?_) (fun c_5 => ?_)
      · refine lv_iload_n hx hb dX3_extract_26 rfl (lv_at hl 2 rfl) ?_
        refine lv_iload_n hx hb dX3_extract_27 rfl (lv_at hl 3 rfl) ?_
        refine q_cut (v := (if rp = rc then (2 : Int32) else (0 : Int32))) (pcJ := 36) (rest := [.ref h]) (fun J => ?_) ?_
        · refine lv_icmp_ne (tgt := 35) hx hb dX3_extract_28 (by decide) (fun c_6 => ?_) (fun c_6 => ?_)
          · refine lv_iconst (v := 0) hx hb dX3_extract_35 (by decide) ?_
            exact J _ (by rw [if_neg c_6]; try rfl)
          · refine lv_iconst (v := 2) hx hb dX3_extract_31 (by decide) ?_
            refine lv_goto (tgt := 36) hx hb dX3_extract_32 (by decide) ?_
            exact J _ (by rw [if_pos c_6]; try rfl)
        refine va_put (v := .int (if rp = rc then (2 : Int32) else (0 : Int32))) (ty := .int) (C := RX3) (T := TX3) (N := 13) hx hb hts in_X3 tyX3 tyX3_ok nmX3 hown hK hP hD hS 0 rfl rfl 0 (by decide) w_1 (fun _ h9 => h9) rfl (tyX3_ok 0 (by decide)) rfl rfl (Nat.le_of_ble_eq_true rfl) dX3_extract_36 (fun H locs hP hD hS => ?_)
        have hP : va_P D vwCl (cMd h q1 q2 cA cB (if rp = rc then (2 : Int32) else (0 : Int32)) ct tf ff td an qb pa aT aF dg fi lo) H := hP
        have hD : va_D A (cMd h q1 q2 cA cB (if rp = rc then (2 : Int32) else (0 : Int32)) ct tf ff td an qb pa aT aF dg fi lo) := hD
        refine lv_aload_n hx hb dX3_extract_39 rfl (lv_at hl 0 rfl) ?_
        refine va_get (v := .int (if rp = rc then (2 : Int32) else (0 : Int32))) (C := RX3) (T := TX3) (N := 13) hx hb hts in_X3 hown hK hP 0 rfl rfl 0 (by decide) w_1 (fun _ h9 => h9) rfl dX3_extract_40 ?_
        refine lv_if_le (tgt := 48) hx hb dX3_extract_43 (by decide) (fun c_7 => ?_) (fun c_7 => ?_)
        · refine lv_aload_n hx hb dX3_extract_48 rfl (lv_at hl 0 rfl) ?_
          have hFc := va_free (wc := cMd h q1 q2 cA cB (if rp = rc then (2 : Int32) else (0 : Int32)) ct tf ff td an qb pa aT aF dg fi lo) hD hS hA [0, 1, 2] rfl
          refine va_callv (va_runV (As := []) (rest := []) ⟨hx, hb, hml, hown, hts⟩ (c_X3_begin l D h q1 q2 cA cB (if rp = rc then (2 : Int32) else (0 : Int32)) ct tf ff td an qb pa aT aF dg fi lo H.size) (cwV 0 hts gX3_extract_X3_begin rfl rfl rfl kV_X3_begin ⟨Nat.le_of_ble_eq_true rfl, Nat.le_of_ble_eq_true rfl⟩) ⟨MMB.blind, va_recv hK hP (ci := 2) (q0 := 0) rfl rfl, MMB.pre hK hP hD⟩ rfl rfl hl.1 rfl (lv_room (Nat.le_of_ble_eq_true rfl)) dX3_extract_49 ⟨Nat.le_of_ble_eq_true rfl, Nat.le_of_ble_eq_true rfl⟩) hS (fun q _ h9 => hFc q h9) hFc (fun u9 t9 H locs ht hvm hw hB hz1 hk1 hS => ?_)
          obtain ⟨otd_8, oan_9, e_10, hP, hD9⟩ := hB
          rw [ht] at hP
          have hD : va_D A (cMd h q1 q2 cA cB (if rp = rc then (2 : Int32) else (0 : Int32)) ct tf ff otd_8 oan_9 qb pa aT aF dg fi lo) := hD9.weaken (fun _ _ _ h => hFc _ h)
          refine lv_iconst (v := 0) hx hb dX3_extract_52 (by decide) ?_
          refine lv_istore (lv' := [(4, .int 0), (0, .ref h), (1, .int ra), (2, .int rp), (3, .int rc)]) hx hb dX3_extract_53 hl (by decide) rfl (fun ls hl => ?_)
          refine lv_lconst (v := 0) hx hb dX3_extract_55 (by decide) ?_
          refine lv_lstore (lv' := [(5, .long 0), (4, .int 0), (0, .ref h), (1, .int ra), (2, .int rp), (3, .int rc)]) hx hb dX3_extract_56 hl (by decide) rfl (fun ls hl => ?_)
          refine lv_aload_n hx hb dX3_extract_58 rfl (lv_at hl 2 rfl) ?_
          refine lv_iload_n hx hb dX3_extract_59 rfl (lv_at hl 3 rfl) ?_
          refine lv_iconst (v := (-1)) hx hb dX3_extract_60 (by decide) ?_
          refine lv_iconst (v := 1) hx hb dX3_extract_61 (by decide) ?_
          have hFc := va_free (wc := cMd h q1 q2 cA cB (if rp = rc then (2 : Int32) else (0 : Int32)) ct tf ff otd_8 oan_9 qb pa aT aF dg fi lo) hD hS hA [0, 1, 2] rfl
          refine va_calli (va_runV (As := [.int ra, .int (-1), .int (bI true)]) (rest := []) ⟨hx, hb, hml, hown, hts⟩ (c_X3_goesOn l D h q1 q2 cA cB (if rp = rc then (2 : Int32) else (0 : Int32)) ct tf ff otd_8 oan_9 qb pa aT aF dg fi lo ra (-1) true H.size (M_none_in c_1) (fun h => absurd (by decide : ((-1) : Int32) < 0) h)) (cwV 3 hts gX3_extract_X3_goesOn rfl rfl rfl kV_X3_goesOn ⟨Nat.le_of_ble_eq_true rfl, Nat.le_of_ble_eq_true rfl⟩) ⟨MMB.blind, va_recv hK hP (ci := 2) (q0 := 0) rfl rfl, MMB.pre hK hP hD⟩ rfl rfl hl.1 rfl (lv_room (Nat.le_of_ble_eq_true rfl)) dX3_extract_62 ⟨Nat.le_of_ble_eq_true rfl, Nat.le_of_ble_eq_true rfl⟩) hS (fun q _ h9 => hFc q h9) hFc (fun r9 v_11 t9 H locs ht hvm hw hB hz1 hk1 hS => ?_)
          obtain rfl := hw
          obtain ⟨otd_12, oan_13, oaT_14, oaF_15, e_16, hP, hD9⟩ := hB
          rw [ht] at hP
          have hD : va_D A (cMd h q1 q2 cA cB (if rp = rc then (2 : Int32) else (0 : Int32)) ct tf ff otd_12 oan_13 qb pa oaT_14 oaF_15 dg fi lo) := hD9.weaken (fun _ _ _ h => hFc _ h)
          refine lv_if_eq (tgt := 228) hx hb dX3_extract_65 (by decide) (fun c_17 => ?_) (fun c_17 => ?_)
          · refine lv_aload_n hx hb dX3_extract_228 rfl (lv_at hl 2 rfl) ?_
            refine va_get (v := .int oaT_14) (C := RX3) (T := TX3) (N := 13) hx hb hts in_X3 hown hK hP 0 rfl rfl 8 (by decide) w_3 (fun _ h9 => h9) rfl dX3_extract_229 ?_
            refine lv_istore (lv' := [(4, .int oaT_14), (5, .long 0), (0, .ref h), (1, .int ra), (2, .int rp), (3, .int rc)]) hx hb dX3_extract_232 hl (by decide) rfl (fun ls hl => ?_)
            refine lv_aload_n hx hb dX3_extract_234 rfl (lv_at hl 2 rfl) ?_
            refine va_get (v := .long oaF_15) (C := RX3) (T := TX3) (N := 13) hx hb hts in_X3 hown hK hP 0 rfl rfl 9 (by decide) w_4 (fun _ h9 => h9) rfl dX3_extract_235 ?_
            refine lv_lstore (lv' := [(5, .long oaF_15), (4, .int oaT_14), (0, .ref h), (1, .int ra), (2, .int rp), (3, .int rc)]) hx hb dX3_extract_238 hl (by decide) rfl (fun ls hl => ?_)
            refine lv_aload_n hx hb dX3_extract_240 rfl (lv_at hl 2 rfl) ?_
            refine va_get (v := .int (bI oan_13)) (C := RX3) (T := TX3) (N := 13) hx hb hts in_X3 hown hK hP 0 rfl rfl 5 (by decide) w_5 (fun _ h9 => h9) rfl dX3_extract_241 ?_
            refine lv_if_eq (tgt := 268) hx hb dX3_extract_244 (by decide) (fun c_18 => ?_) (fun c_18 => ?_)
            · refine lv_aload_n hx hb dX3_extract_268 rfl (lv_at hl 2 rfl) ?_
              refine va_get (v := .int otd_12) (C := RX3) (T := TX3) (N := 13) hx hb hts in_X3 hown hK hP 0 rfl rfl 4 (by decide) w_6 (fun _ h9 => h9) rfl dX3_extract_269 ?_
              have hw : M_extract tf ff ct td an aT aF dg fi lo ra rp rc = (otd_12, (if rp = rc then (2 : Int32) else (0 : Int32)), tf, ff, otd_12, oan_13, oaT_14, oaF_15, dg, fi, lo) := by unfold M_extract; rw [if_pos c_1, if_pos c_3, if_pos c_5, if_pos c_7, tup2_e e_10, tup5_e e_16, if_pos c_17, if_pos c_18]; try rfl
              exact W.iret hx hb hr (fun t9 ht hW => ⟨⟨_, otd_12, rfl, rfl, ⟨(if rp = rc then (2 : Int32) else (0 : Int32)), tf, ff, otd_12, oan_13, oaT_14, oaF_15, dg, fi, lo, hw, by rw [ht]; exact hP, hD⟩⟩, hS.F ht⟩) hS.2.2 dX3_extract_272
            · refine lv_aload_n hx hb dX3_extract_247 rfl (lv_at hl 2 rfl) ?_
              refine lv_iload_n hx hb dX3_extract_248 rfl (lv_at hl 5 rfl) ?_
              have hFc := va_free (wc := cMd h q1 q2 cA cB (if rp = rc then (2 : Int32) else (0 : Int32)) ct tf ff otd_12 oan_13 qb pa oaT_14 oaF_15 dg fi lo) hD hS hA [0, 1, 2] rfl
              refine va_callv (va_runV (As := [.int rc]) (rest := []) ⟨hx, hb, hml, hown, hts⟩ (c_X3_keep l D h q1 q2 cA cB (if rp = rc then (2 : Int32) else (0 : Int32)) ct tf ff otd_12 oan_13 qb pa oaT_14 oaF_15 dg fi lo rc H.size (M_none_in c_5)) (cwV 1 hts gX3_extract_X3_keep rfl rfl rfl kV_X3_keep ⟨Nat.le_of_ble_eq_true rfl, Nat.le_of_ble_eq_true rfl⟩) ⟨MMB.blind, va_recv hK hP (ci := 2) (q0 := 0) rfl rfl, MMB.pre hK hP hD⟩ rfl rfl hl.1 rfl (lv_room (Nat.le_of_ble_eq_true rfl)) dX3_extract_249 ⟨Nat.le_of_ble_eq_true rfl, Nat.le_of_ble_eq_true rfl⟩) hS (fun q _ h9 => hFc q h9) hFc (fun u9 t9 H locs ht hvm hw hB hz1 hk1 hS => ?_)
              obtain ⟨otf_19, off_20, e_21, hP, hD9⟩ := hB
              rw [ht] at hP
              have hD : va_D A (cMd h q1 q2 cA cB (if rp = rc then (2 : Int32) else (0 : Int32)) ct otf_19 off_20 otd_12 oan_13 qb pa oaT_14 oaF_15 dg fi lo) := hD9.weaken (fun _ _ _ h => hFc _ h)
              refine lv_aload_n hx hb dX3_extract_252 rfl (lv_at hl 2 rfl) ?_
              refine va_get (v := .ref q1) (C := RX3) (T := TX3) (N := 13) hx hb hts in_X3 hown hK hP 0 rfl rfl 2 (by decide) w_7 (fun _ h9 => h9) rfl dX3_extract_253 ?_
              refine lv_iload_n hx hb dX3_extract_256 rfl (lv_at hl 4 rfl) ?_
              refine lv_iload hx hb dX3_extract_257 (lv_at hl 1 rfl) ?_
              refine va_iast hx hb hK hP hD hS 1 0 rfl rfl (M_none_in c_3) dX3_extract_259 (fun H locs hP hD hS => ?_)
              have hP : va_P D vwCl (cMd h q1 q2 cA cB (if rp = rc then (2 : Int32) else (0 : Int32)) ct (upd otf_19 rp.toNatClampNeg oaT_14) off_20 otd_12 oan_13 qb pa oaT_14 oaF_15 dg fi lo) H := hP
              have hD : va_D A (cMd h q1 q2 cA cB (if rp = rc then (2 : Int32) else (0 : Int32)) ct (upd otf_19 rp.toNatClampNeg oaT_14) off_20 otd_12 oan_13 qb pa oaT_14 oaF_15 dg fi lo) := hD
              refine lv_aload_n hx hb dX3_extract_260 rfl (lv_at hl 2 rfl) ?_
              refine va_get (v := .ref q2) (C := RX3) (T := TX3) (N := 13) hx hb hts in_X3 hown hK hP 0 rfl rfl 3 (by decide) w_8 (fun _ h9 => h9) rfl dX3_extract_261 ?_
              refine lv_iload_n hx hb dX3_extract_264 rfl (lv_at hl 4 rfl) ?_
              refine lv_lload hx hb dX3_extract_265 (lv_at hl 0 rfl) ?_
              refine va_last hx hb hK hP hD hS 2 1 rfl rfl (M_none_in c_3) dX3_extract_267 (fun H locs hP hD hS => ?_)
              have hP : va_P D vwCl (cMd h q1 q2 cA cB (if rp = rc then (2 : Int32) else (0 : Int32)) ct (upd otf_19 rp.toNatClampNeg oaT_14) (vp_updL off_20 rp.toNatClampNeg oaF_15) otd_12 oan_13 qb pa oaT_14 oaF_15 dg fi lo) H := hP
              have hD : va_D A (cMd h q1 q2 cA cB (if rp = rc then (2 : Int32) else (0 : Int32)) ct (upd otf_19 rp.toNatClampNeg oaT_14) (vp_updL off_20 rp.toNatClampNeg oaF_15) otd_12 oan_13 qb pa oaT_14 oaF_15 dg fi lo) := hD
              refine lv_aload_n hx hb dX3_extract_268 rfl (lv_at hl 2 rfl) ?_
              refine va_get (v := .int otd_12) (C := RX3) (T := TX3) (N := 13) hx hb hts in_X3 hown hK hP 0 rfl rfl 4 (by decide) w_6 (fun _ h9 => h9) rfl dX3_extract_269 ?_
              have hw : M_extract tf ff ct td an aT aF dg fi lo ra rp rc = (otd_12, (if rp = rc then (2 : Int32) else (0 : Int32)), (upd otf_19 rp.toNatClampNeg oaT_14), (vp_updL off_20 rp.toNatClampNeg oaF_15), otd_12, oan_13, oaT_14, oaF_15, dg, fi, lo) := by unfold M_extract; rw [if_pos c_1, if_pos c_3, if_pos c_5, if_pos c_7, tup2_e e_10, tup5_e e_16, if_pos c_17, if_neg c_18, tup2_e e_21]; try rfl
              exact W.iret hx hb hr (fun t9 ht hW => ⟨⟨_, otd_12, rfl, rfl, ⟨(if rp = rc then (2 : Int32) else (0 : Int32)), (upd otf_19 rp.toNatClampNeg oaT_14), (vp_updL off_20 rp.toNatClampNeg oaF_15), otd_12, oan_13, oaT_14, oaF_15, dg, fi, lo, hw, by rw [ht]; exact hP, hD⟩⟩, hS.F ht⟩) hS.2.2 dX3_extract_272
          · refine lv_aload_n hx hb dX3_extract_68 rfl (lv_at hl 2 rfl) ?_
            refine lv_iload_n hx hb dX3_extract_69 rfl (lv_at hl 3 rfl) ?_
            refine vp_callSi (va_cr (va_runV (As := [.int ra]) (rest := []) ⟨hx, hb, hml, hown, hts⟩ (c_X3_kind l D h q1 q2 cA cB (if rp = rc then (2 : Int32) else (0 : Int32)) ct tf ff otd_12 oan_13 qb pa oaT_14 oaF_15 dg fi lo ra (M_none_in c_1)) (cwV 1 hts gX3_extract_X3_kind rfl rfl rfl kV_X3_kind ⟨Nat.le_of_ble_eq_true rfl, Nat.le_of_ble_eq_true rfl⟩) ⟨PB.blind, va_recv hK hP (ci := 2) (q0 := 0) rfl rfl, PB.pre hK hP⟩ rfl rfl hl.1 rfl (lv_room (Nat.le_of_ble_eq_true rfl)) dX3_extract_70 ⟨Nat.le_of_ble_eq_true rfl, Nat.le_of_ble_eq_true rfl⟩)) (fun r9 e9 => ?_)
            rw [e9]
            refine lv_iconst (v := 4) hx hb dX3_extract_73 (by decide) ?_
            refine lv_icmp_ne (tgt := 106) hx hb dX3_extract_74 (by decide) (fun c_22 => ?_) (fun c_22 => ?_)
            · refine lv_aload_n hx hb dX3_extract_106 rfl (lv_at hl 2 rfl) ?_
              refine lv_iload_n hx hb dX3_extract_107 rfl (lv_at hl 3 rfl) ?_
              refine vp_callSi (va_cr (va_runV (As := [.int ra]) (rest := []) ⟨hx, hb, hml, hown, hts⟩ (c_X3_nothing l D h q1 q2 cA cB (if rp = rc then (2 : Int32) else (0 : Int32)) ct tf ff otd_12 oan_13 qb pa oaT_14 oaF_15 dg fi lo ra (M_none_in c_1)) (cwV 1 hts gX3_extract_X3_nothing rfl rfl rfl kV_X3_nothing ⟨Nat.le_of_ble_eq_true rfl, Nat.le_of_ble_eq_true rfl⟩) ⟨PB.blind, va_recv hK hP (ci := 2) (q0 := 0) rfl rfl, PB.pre hK hP⟩ rfl rfl hl.1 rfl (lv_room (Nat.le_of_ble_eq_true rfl)) dX3_extract_108 ⟨Nat.le_of_ble_eq_true rfl, Nat.le_of_ble_eq_true rfl⟩)) (fun r9 e9 => ?_)
              rw [e9]
              refine lv_if_eq (tgt := 153) hx hb dX3_extract_111 (by decide) (fun c_23 => ?_) (fun c_23 => ?_)
              · refine lv_aload_n hx hb dX3_extract_153 rfl (lv_at hl 2 rfl) ?_
                refine lv_iload_n hx hb dX3_extract_154 rfl (lv_at hl 3 rfl) ?_
                have hFc := va_free (wc := cMd h q1 q2 cA cB (if rp = rc then (2 : Int32) else (0 : Int32)) ct tf ff otd_12 oan_13 qb pa oaT_14 oaF_15 dg fi lo) hD hS hA [0, 1, 2] rfl
                refine va_callv (va_runV (As := [.int ra]) (rest := []) ⟨hx, hb, hml, hown, hts⟩ (c_X3_apart l D h q1 q2 cA cB (if rp = rc then (2 : Int32) else (0 : Int32)) ct tf ff otd_12 oan_13 qb pa oaT_14 oaF_15 dg fi lo ra H.size (M_none_in c_1)) (cwV 1 hts gX3_extract_X3_apart rfl rfl rfl kV_X3_apart ⟨Nat.le_of_ble_eq_true rfl, Nat.le_of_ble_eq_true rfl⟩) ⟨MMB.blind, va_recv hK hP (ci := 2) (q0 := 0) rfl rfl, MMB.pre hK hP hD⟩ rfl rfl hl.1 rfl (lv_room (Nat.le_of_ble_eq_true rfl)) dX3_extract_155 ⟨Nat.le_of_ble_eq_true rfl, Nat.le_of_ble_eq_true rfl⟩) hS (fun q _ h9 => hFc q h9) hFc (fun u9 t9 H locs ht hvm hw hB hz1 hk1 hS => ?_)
                obtain ⟨odg_24, ofi_25, e_26, hP, hD9⟩ := hB
                rw [ht] at hP
                have hD : va_D A (cMd h q1 q2 cA cB (if rp = rc then (2 : Int32) else (0 : Int32)) ct tf ff otd_12 oan_13 qb pa oaT_14 oaF_15 odg_24 ofi_25 lo) := hD9.weaken (fun _ _ _ h => hFc _ h)
                refine lv_aload_n hx hb dX3_extract_158 rfl (lv_at hl 2 rfl) ?_
                refine va_get (v := .int ofi_25) (C := RX3) (T := TX3) (N := 13) hx hb hts in_X3 hown hK hP 0 rfl rfl 11 (by decide) w_9 (fun _ h9 => h9) rfl dX3_extract_159 ?_
                refine lv_istore (lv' := [(7, .int ofi_25), (5, .long 0), (4, .int 0), (0, .ref h), (1, .int ra), (2, .int rp), (3, .int rc)]) hx hb dX3_extract_162 hl (by decide) rfl (fun ls hl => ?_)
                refine lv_aload_n hx hb dX3_extract_164 rfl (lv_at hl 3 rfl) ?_
                refine va_get (v := .long odg_24) (C := RX3) (T := TX3) (N := 13) hx hb hts in_X3 hown hK hP 0 rfl rfl 10 (by decide) w_10 (fun _ h9 => h9) rfl dX3_extract_165 ?_
                refine lv_lstore (lv' := [(8, .long odg_24), (7, .int ofi_25), (5, .long 0), (4, .int 0), (0, .ref h), (1, .int ra), (2, .int rp), (3, .int rc)]) hx hb dX3_extract_168 hl (by decide) rfl (fun ls hl => ?_)
                refine lv_aload_n hx hb dX3_extract_170 rfl (lv_at hl 4 rfl) ?_
                refine lv_iload hx hb dX3_extract_171 (lv_at hl 1 rfl) ?_
                refine q_cut (v := bI (if 0 ≤ ofi_25 then false else true)) (pcJ := 181) (rest := [.ref h]) (fun J => ?_) ?_
                · refine lv_if_ge (tgt := 180) hx hb dX3_extract_173 (by decide) (fun c_27 => ?_) (fun c_27 => ?_)
                  · refine lv_iconst (v := 0) hx hb dX3_extract_180 (by decide) ?_
                    exact J _ (by rw [if_pos c_27]; try rfl)
                  · refine lv_iconst (v := 1) hx hb dX3_extract_176 (by decide) ?_
                    refine lv_goto (tgt := 181) hx hb dX3_extract_177 (by decide) ?_
                    exact J _ (by rw [if_neg c_27]; try rfl)
                refine lv_iload hx hb dX3_extract_181 (lv_at hl 1 rfl) ?_
                refine q_cutL (v := (if 0 ≤ ofi_25 then (ofi_25).toInt64 else ((-ofi_25)).toInt64)) (pcJ := 196) (rest := [.int (bI (if 0 ≤ ofi_25 then false else true)), .ref h]) (fun J => ?_) ?_
                · refine lv_if_ge (tgt := 193) hx hb dX3_extract_183 (by decide) (fun c_28 => ?_) (fun c_28 => ?_)
                  · refine lv_iload hx hb dX3_extract_193 (lv_at hl 1 rfl) ?_
                    refine lv_i2l (v := (ofi_25).toInt64) hx hb dX3_extract_195 rfl ?_
                    exact J _ (by rw [if_pos c_28]; try rfl)
                  · refine lv_iload hx hb dX3_extract_186 (lv_at hl 1 rfl) ?_
                    refine lv_ineg hx hb dX3_extract_188 ?_
                    refine lv_i2l (v := ((-ofi_25)).toInt64) hx hb dX3_extract_189 rfl ?_
                    refine lv_goto (tgt := 196) hx hb dX3_extract_190 (by decide) ?_
                    exact J _ (by rw [if_neg c_28]; try rfl)
                refine lv_iconst (v := 0) hx hb dX3_extract_196 (by decide) ?_
                have hFc := va_free (wc := cMd h q1 q2 cA cB (if rp = rc then (2 : Int32) else (0 : Int32)) ct tf ff otd_12 oan_13 qb pa oaT_14 oaF_15 odg_24 ofi_25 lo) hD hS hA [0, 1, 2] rfl
                refine va_callv (va_runV (As := [.int (bI (if 0 ≤ ofi_25 then false else true)), .long (if 0 ≤ ofi_25 then (ofi_25).toInt64 else ((-ofi_25)).toInt64), .int 0]) (rest := []) ⟨hx, hb, hml, hown, hts⟩ (c_X3_make l D h q1 q2 cA cB (if rp = rc then (2 : Int32) else (0 : Int32)) ct tf ff otd_12 oan_13 qb pa oaT_14 oaF_15 odg_24 ofi_25 lo (if 0 ≤ ofi_25 then false else true) (if 0 ≤ ofi_25 then (ofi_25).toInt64 else ((-ofi_25)).toInt64) 0 H.size) (cwV 3 hts gX3_extract_X3_make rfl rfl rfl kV_X3_make ⟨Nat.le_of_ble_eq_true rfl, Nat.le_of_ble_eq_true rfl⟩) ⟨MMB.blind, va_recv hK hP (ci := 2) (q0 := 0) rfl rfl, MMB.pre hK hP hD⟩ rfl rfl hl.1 rfl (lv_room (Nat.le_of_ble_eq_true rfl)) dX3_extract_197 ⟨Nat.le_of_ble_eq_true rfl, Nat.le_of_ble_eq_true rfl⟩) hS (fun q _ h9 => hFc q h9) hFc (fun u9 t9 H locs ht hvm hw hB hz1 hk1 hS => ?_)
                obtain ⟨otd_29, oan_30, oaT_31, oaF_32, olo_33, e_34, hP, hD9⟩ := hB
                rw [ht] at hP
                have hD : va_D A (cMd h q1 q2 cA cB (if rp = rc then (2 : Int32) else (0 : Int32)) ct tf ff otd_29 oan_30 qb pa oaT_31 oaF_32 odg_24 ofi_25 olo_33) := hD9.weaken (fun _ _ _ h => hFc _ h)
                refine lv_aload_n hx hb dX3_extract_200 rfl (lv_at hl 4 rfl) ?_
                refine va_get (v := .int oaT_31) (C := RX3) (T := TX3) (N := 13) hx hb hts in_X3 hown hK hP 0 rfl rfl 8 (by decide) w_3 (fun _ h9 => h9) rfl dX3_extract_201 ?_
                refine lv_istore (lv' := [(4, .int oaT_31), (8, .long odg_24), (7, .int ofi_25), (5, .long 0), (0, .ref h), (1, .int ra), (2, .int rp), (3, .int rc)]) hx hb dX3_extract_204 hl (by decide) rfl (fun ls hl => ?_)
                refine lv_aload_n hx hb dX3_extract_206 rfl (lv_at hl 4 rfl) ?_
                refine va_get (v := .long oaF_32) (C := RX3) (T := TX3) (N := 13) hx hb hts in_X3 hown hK hP 0 rfl rfl 9 (by decide) w_4 (fun _ h9 => h9) rfl dX3_extract_207 ?_
                refine lv_lstore (lv' := [(5, .long oaF_32), (4, .int oaT_31), (8, .long odg_24), (7, .int ofi_25), (0, .ref h), (1, .int ra), (2, .int rp), (3, .int rc)]) hx hb dX3_extract_210 hl (by decide) rfl (fun ls hl => ?_)
                refine lv_aload_n hx hb dX3_extract_212 rfl (lv_at hl 4 rfl) ?_
                refine lv_aload_n hx hb dX3_extract_213 rfl (lv_at hl 4 rfl) ?_
                refine lv_iload_n hx hb dX3_extract_214 rfl (lv_at hl 5 rfl) ?_
                refine vp_callSi (va_cr (va_runV (As := [.int ra]) (rest := [.ref h]) ⟨hx, hb, hml, hown, hts⟩ (c_X3_minus l D h q1 q2 cA cB (if rp = rc then (2 : Int32) else (0 : Int32)) ct tf ff otd_29 oan_30 qb pa oaT_31 oaF_32 odg_24 ofi_25 olo_33 ra (M_none_in c_1)) (cwV 1 hts gX3_extract_X3_minus rfl rfl rfl kV_X3_minus ⟨Nat.le_of_ble_eq_true rfl, Nat.le_of_ble_eq_true rfl⟩) ⟨PB.blind, va_recv hK hP (ci := 2) (q0 := 0) rfl rfl, PB.pre hK hP⟩ rfl rfl hl.1 rfl (lv_room (Nat.le_of_ble_eq_true rfl)) dX3_extract_215 ⟨Nat.le_of_ble_eq_true rfl, Nat.le_of_ble_eq_true rfl⟩)) (fun r9 e9 => ?_)
                rw [e9]
                refine lv_lload hx hb dX3_extract_218 (lv_at hl 2 rfl) ?_
                refine lv_bipush (v := (-63)) hx hb dX3_extract_220 (by decide) ?_
                have hFc := va_free (wc := cMd h q1 q2 cA cB (if rp = rc then (2 : Int32) else (0 : Int32)) ct tf ff otd_29 oan_30 qb pa oaT_31 oaF_32 odg_24 ofi_25 olo_33) hD hS hA [0, 1, 2] rfl
                refine va_callv (va_runV (As := [.int (bI (M_minus (tf ra.toNatClampNeg))), .long odg_24, .int (-63)]) (rest := []) ⟨hx, hb, hml, hown, hts⟩ (c_X3_make l D h q1 q2 cA cB (if rp = rc then (2 : Int32) else (0 : Int32)) ct tf ff otd_29 oan_30 qb pa oaT_31 oaF_32 odg_24 ofi_25 olo_33 (M_minus (tf ra.toNatClampNeg)) odg_24 (-63) H.size) (cwV 3 hts gX3_extract_X3_make rfl rfl rfl kV_X3_make ⟨Nat.le_of_ble_eq_true rfl, Nat.le_of_ble_eq_true rfl⟩) ⟨MMB.blind, va_recv hK hP (ci := 2) (q0 := 0) rfl rfl, MMB.pre hK hP hD⟩ rfl rfl hl.1 rfl (lv_room (Nat.le_of_ble_eq_true rfl)) dX3_extract_222 ⟨Nat.le_of_ble_eq_true rfl, Nat.le_of_ble_eq_true rfl⟩) hS (fun q _ h9 => hFc q h9) hFc (fun u9 t9 H locs ht hvm hw hB hz1 hk1 hS => ?_)
                obtain ⟨otd_35, oan_36, oaT_37, oaF_38, olo_39, e_40, hP, hD9⟩ := hB
                rw [ht] at hP
                have hD : va_D A (cMd h q1 q2 cA cB (if rp = rc then (2 : Int32) else (0 : Int32)) ct tf ff otd_35 oan_36 qb pa oaT_37 oaF_38 odg_24 ofi_25 olo_39) := hD9.weaken (fun _ _ _ h => hFc _ h)
                refine lv_goto (tgt := 240) hx hb dX3_extract_225 (by decide) ?_
                refine lv_aload_n hx hb dX3_extract_240 rfl (lv_at hl 4 rfl) ?_
                refine va_get (v := .int (bI oan_36)) (C := RX3) (T := TX3) (N := 13) hx hb hts in_X3 hown hK hP 0 rfl rfl 5 (by decide) w_5 (fun _ h9 => h9) rfl dX3_extract_241 ?_
                refine lv_if_eq (tgt := 268) hx hb dX3_extract_244 (by decide) (fun c_41 => ?_) (fun c_41 => ?_)
                · refine lv_aload_n hx hb dX3_extract_268 rfl (lv_at hl 4 rfl) ?_
                  refine va_get (v := .int otd_35) (C := RX3) (T := TX3) (N := 13) hx hb hts in_X3 hown hK hP 0 rfl rfl 4 (by decide) w_6 (fun _ h9 => h9) rfl dX3_extract_269 ?_
                  have hw : M_extract tf ff ct td an aT aF dg fi lo ra rp rc = (otd_35, (if rp = rc then (2 : Int32) else (0 : Int32)), tf, ff, otd_35, oan_36, oaT_37, oaF_38, odg_24, ofi_25, olo_39) := by unfold M_extract; rw [if_pos c_1, if_pos c_3, if_pos c_5, if_pos c_7, tup2_e e_10, tup5_e e_16, if_neg c_17, if_neg c_22, if_pos c_23, tup2_e e_26, tup5_e e_34, tup5_e e_40, if_pos c_41]; try rfl
                  exact W.iret hx hb hr (fun t9 ht hW => ⟨⟨_, otd_35, rfl, rfl, ⟨(if rp = rc then (2 : Int32) else (0 : Int32)), tf, ff, otd_35, oan_36, oaT_37, oaF_38, odg_24, ofi_25, olo_39, hw, by rw [ht]; exact hP, hD⟩⟩, hS.F ht⟩) hS.2.2 dX3_extract_272
                · refine lv_aload_n hx hb dX3_extract_247 rfl (lv_at hl 4 rfl) ?_
                  refine lv_iload_n hx hb dX3_extract_248 rfl (lv_at hl 7 rfl) ?_
                  have hFc := va_free (wc := cMd h q1 q2 cA cB (if rp = rc then (2 : Int32) else (0 : Int32)) ct tf ff otd_35 oan_36 qb pa oaT_37 oaF_38 odg_24 ofi_25 olo_39) hD hS hA [0, 1, 2] rfl
                  refine va_callv (va_runV (As := [.int rc]) (rest := []) ⟨hx, hb, hml, hown, hts⟩ (c_X3_keep l D h q1 q2 cA cB (if rp = rc then (2 : Int32) else (0 : Int32)) ct tf ff otd_35 oan_36 qb pa oaT_37 oaF_38 odg_24 ofi_25 olo_39 rc H.size (M_none_in c_5)) (cwV 1 hts gX3_extract_X3_keep rfl rfl rfl kV_X3_keep ⟨Nat.le_of_ble_eq_true rfl, Nat.le_of_ble_eq_true rfl⟩) ⟨MMB.blind, va_recv hK hP (ci := 2) (q0 := 0) rfl rfl, MMB.pre hK hP hD⟩ rfl rfl hl.1 rfl (lv_room (Nat.le_of_ble_eq_true rfl)) dX3_extract_249 ⟨Nat.le_of_ble_eq_true rfl, Nat.le_of_ble_eq_true rfl⟩) hS (fun q _ h9 => hFc q h9) hFc (fun u9 t9 H locs ht hvm hw hB hz1 hk1 hS => ?_)
                  obtain ⟨otf_42, off_43, e_44, hP, hD9⟩ := hB
                  rw [ht] at hP
                  have hD : va_D A (cMd h q1 q2 cA cB (if rp = rc then (2 : Int32) else (0 : Int32)) ct otf_42 off_43 otd_35 oan_36 qb pa oaT_37 oaF_38 odg_24 ofi_25 olo_39) := hD9.weaken (fun _ _ _ h => hFc _ h)
                  refine lv_aload_n hx hb dX3_extract_252 rfl (lv_at hl 4 rfl) ?_
                  refine va_get (v := .ref q1) (C := RX3) (T := TX3) (N := 13) hx hb hts in_X3 hown hK hP 0 rfl rfl 2 (by decide) w_7 (fun _ h9 => h9) rfl dX3_extract_253 ?_
                  refine lv_iload_n hx hb dX3_extract_256 rfl (lv_at hl 6 rfl) ?_
                  refine lv_iload hx hb dX3_extract_257 (lv_at hl 1 rfl) ?_
                  refine va_iast hx hb hK hP hD hS 1 0 rfl rfl (M_none_in c_3) dX3_extract_259 (fun H locs hP hD hS => ?_)
                  have hP : va_P D vwCl (cMd h q1 q2 cA cB (if rp = rc then (2 : Int32) else (0 : Int32)) ct (upd otf_42 rp.toNatClampNeg oaT_31) off_43 otd_35 oan_36 qb pa oaT_37 oaF_38 odg_24 ofi_25 olo_39) H := hP
                  have hD : va_D A (cMd h q1 q2 cA cB (if rp = rc then (2 : Int32) else (0 : Int32)) ct (upd otf_42 rp.toNatClampNeg oaT_31) off_43 otd_35 oan_36 qb pa oaT_37 oaF_38 odg_24 ofi_25 olo_39) := hD
                  refine lv_aload_n hx hb dX3_extract_260 rfl (lv_at hl 4 rfl) ?_
                  refine va_get (v := .ref q2) (C := RX3) (T := TX3) (N := 13) hx hb hts in_X3 hown hK hP 0 rfl rfl 3 (by decide) w_8 (fun _ h9 => h9) rfl dX3_extract_261 ?_
                  refine lv_iload_n hx hb dX3_extract_264 rfl (lv_at hl 6 rfl) ?_
                  refine lv_lload hx hb dX3_extract_265 (lv_at hl 0 rfl) ?_
                  refine va_last hx hb hK hP hD hS 2 1 rfl rfl (M_none_in c_3) dX3_extract_267 (fun H locs hP hD hS => ?_)
                  have hP : va_P D vwCl (cMd h q1 q2 cA cB (if rp = rc then (2 : Int32) else (0 : Int32)) ct (upd otf_42 rp.toNatClampNeg oaT_31) (vp_updL off_43 rp.toNatClampNeg oaF_32) otd_35 oan_36 qb pa oaT_37 oaF_38 odg_24 ofi_25 olo_39) H := hP
                  have hD : va_D A (cMd h q1 q2 cA cB (if rp = rc then (2 : Int32) else (0 : Int32)) ct (upd otf_42 rp.toNatClampNeg oaT_31) (vp_updL off_43 rp.toNatClampNeg oaF_32) otd_35 oan_36 qb pa oaT_37 oaF_38 odg_24 ofi_25 olo_39) := hD
                  refine lv_aload_n hx hb dX3_extract_268 rfl (lv_at hl 4 rfl) ?_
                  refine va_get (v := .int otd_35) (C := RX3) (T := TX3) (N := 13) hx hb hts in_X3 hown hK hP 0 rfl rfl 4 (by decide) w_6 (fun _ h9 => h9) rfl dX3_extract_269 ?_
                  have hw : M_extract tf ff ct td an aT aF dg fi lo ra rp rc = (otd_35, (if rp = rc then (2 : Int32) else (0 : Int32)), (upd otf_42 rp.toNatClampNeg oaT_31), (vp_updL off_43 rp.toNatClampNeg oaF_32), otd_35, oan_36, oaT_37, oaF_38, odg_24, ofi_25, olo_39) := by unfold M_extract; rw [if_pos c_1, if_pos c_3, if_pos c_5, if_pos c_7, tup2_e e_10, tup5_e e_16, if_neg c_17, if_neg c_22, if_pos c_23, tup2_e e_26, tup5_e e_34, tup5_e e_40, if_neg c_41, tup2_e e_44]; try rfl
                  exact W.iret hx hb hr (fun t9 ht hW => ⟨⟨_, otd_35, rfl, rfl, ⟨(if rp = rc then (2 : Int32) else (0 : Int32)), (upd otf_42 rp.toNatClampNeg oaT_31), (vp_updL off_43 rp.toNatClampNeg oaF_32), otd_35, oan_36, oaT_37, oaF_38, odg_24, ofi_25, olo_39, hw, by rw [ht]; exact hP, hD⟩⟩, hS.F ht⟩) hS.2.2 dX3_extract_272
              · refine lv_ldc (v := 65535) hx hb hown w_11 dX3_extract_114 ?_
                refine lv_istore (lv' := [(4, .int 65535), (5, .long 0), (0, .ref h), (1, .int ra), (2, .int rp), (3, .int rc)]) hx hb dX3_extract_116 hl (by decide) rfl (fun ls hl => ?_)
                refine lv_ldc2 (v := (-9223372036854775808)) hx hb hown w_12 dX3_extract_118 ?_
                refine lv_lstore (lv' := [(5, .long (-9223372036854775808)), (4, .int 65535), (0, .ref h), (1, .int ra), (2, .int rp), (3, .int rc)]) hx hb dX3_extract_121 hl (by decide) rfl (fun ls hl => ?_)
                refine lv_aload_n hx hb dX3_extract_123 rfl (lv_at hl 2 rfl) ?_
                refine lv_iconst (v := 4) hx hb dX3_extract_124 (by decide) ?_
                have hFc := va_free (wc := cMd h q1 q2 cA cB (if rp = rc then (2 : Int32) else (0 : Int32)) ct tf ff otd_12 oan_13 qb pa oaT_14 oaF_15 dg fi lo) hD hS hA [0, 1, 2] rfl
                refine va_calli (va_runV (As := [.int 4]) (rest := []) ⟨hx, hb, hml, hown, hts⟩ (c_X3_tell l D h q1 q2 cA cB (if rp = rc then (2 : Int32) else (0 : Int32)) ct tf ff otd_12 oan_13 qb pa oaT_14 oaF_15 dg fi lo 4 H.size (by decide)) (cwV 1 hts gX3_extract_X3_tell rfl rfl rfl kV_X3_tell ⟨Nat.le_of_ble_eq_true rfl, Nat.le_of_ble_eq_true rfl⟩) ⟨MMB.blind, va_recv hK hP (ci := 2) (q0 := 0) rfl rfl, MMB.pre hK hP hD⟩ rfl rfl hl.1 rfl (lv_room (Nat.le_of_ble_eq_true rfl)) dX3_extract_125 ⟨Nat.le_of_ble_eq_true rfl, Nat.le_of_ble_eq_true rfl⟩) hS (fun q _ h9 => hFc q h9) hFc (fun r9 v_45 t9 H locs ht hvm hw hB hz1 hk1 hS => ?_)
                obtain rfl := hw
                obtain ⟨otd_46, e_47, hP, hD9⟩ := hB
                rw [ht] at hP
                have hD : va_D A (cMd h q1 q2 cA cB (if rp = rc then (2 : Int32) else (0 : Int32)) ct tf ff otd_46 oan_13 qb pa oaT_14 oaF_15 dg fi lo) := hD9.weaken (fun _ _ _ h => hFc _ h)
                refine lv_if_eq (tgt := 240) hx hb dX3_extract_128 (by decide) (fun c_48 => ?_) (fun c_48 => ?_)
                · refine lv_aload_n hx hb dX3_extract_240 rfl (lv_at hl 2 rfl) ?_
                  refine va_get (v := .int (bI oan_13)) (C := RX3) (T := TX3) (N := 13) hx hb hts in_X3 hown hK hP 0 rfl rfl 5 (by decide) w_5 (fun _ h9 => h9) rfl dX3_extract_241 ?_
                  refine lv_if_eq (tgt := 268) hx hb dX3_extract_244 (by decide) (fun c_49 => ?_) (fun c_49 => ?_)
                  · refine lv_aload_n hx hb dX3_extract_268 rfl (lv_at hl 2 rfl) ?_
                    refine va_get (v := .int otd_46) (C := RX3) (T := TX3) (N := 13) hx hb hts in_X3 hown hK hP 0 rfl rfl 4 (by decide) w_6 (fun _ h9 => h9) rfl dX3_extract_269 ?_
                    have hw : M_extract tf ff ct td an aT aF dg fi lo ra rp rc = (otd_46, (if rp = rc then (2 : Int32) else (0 : Int32)), tf, ff, otd_46, oan_13, oaT_14, oaF_15, dg, fi, lo) := by unfold M_extract; rw [if_pos c_1, if_pos c_3, if_pos c_5, if_pos c_7, tup2_e e_10, tup5_e e_16, if_neg c_17, if_neg c_22, if_neg c_23, tup2_e e_47, if_pos c_48, if_pos c_49]; try rfl
                    exact W.iret hx hb hr (fun t9 ht hW => ⟨⟨_, otd_46, rfl, rfl, ⟨(if rp = rc then (2 : Int32) else (0 : Int32)), tf, ff, otd_46, oan_13, oaT_14, oaF_15, dg, fi, lo, hw, by rw [ht]; exact hP, hD⟩⟩, hS.F ht⟩) hS.2.2 dX3_extract_272
                  · refine lv_aload_n hx hb dX3_extract_247 rfl (lv_at hl 2 rfl) ?_
                    refine lv_iload_n hx hb dX3_extract_248 rfl (lv_at hl 5 rfl) ?_
                    have hFc := va_free (wc := cMd h q1 q2 cA cB (if rp = rc then (2 : Int32) else (0 : Int32)) ct tf ff otd_46 oan_13 qb pa oaT_14 oaF_15 dg fi lo) hD hS hA [0, 1, 2] rfl
                    refine va_callv (va_runV (As := [.int rc]) (rest := []) ⟨hx, hb, hml, hown, hts⟩ (c_X3_keep l D h q1 q2 cA cB (if rp = rc then (2 : Int32) else (0 : Int32)) ct tf ff otd_46 oan_13 qb pa oaT_14 oaF_15 dg fi lo rc H.size (M_none_in c_5)) (cwV 1 hts gX3_extract_X3_keep rfl rfl rfl kV_X3_keep ⟨Nat.le_of_ble_eq_true rfl, Nat.le_of_ble_eq_true rfl⟩) ⟨MMB.blind, va_recv hK hP (ci := 2) (q0 := 0) rfl rfl, MMB.pre hK hP hD⟩ rfl rfl hl.1 rfl (lv_room (Nat.le_of_ble_eq_true rfl)) dX3_extract_249 ⟨Nat.le_of_ble_eq_true rfl, Nat.le_of_ble_eq_true rfl⟩) hS (fun q _ h9 => hFc q h9) hFc (fun u9 t9 H locs ht hvm hw hB hz1 hk1 hS => ?_)
                    obtain ⟨otf_50, off_51, e_52, hP, hD9⟩ := hB
                    rw [ht] at hP
                    have hD : va_D A (cMd h q1 q2 cA cB (if rp = rc then (2 : Int32) else (0 : Int32)) ct otf_50 off_51 otd_46 oan_13 qb pa oaT_14 oaF_15 dg fi lo) := hD9.weaken (fun _ _ _ h => hFc _ h)
                    refine lv_aload_n hx hb dX3_extract_252 rfl (lv_at hl 2 rfl) ?_
                    refine va_get (v := .ref q1) (C := RX3) (T := TX3) (N := 13) hx hb hts in_X3 hown hK hP 0 rfl rfl 2 (by decide) w_7 (fun _ h9 => h9) rfl dX3_extract_253 ?_
                    refine lv_iload_n hx hb dX3_extract_256 rfl (lv_at hl 4 rfl) ?_
                    refine lv_iload hx hb dX3_extract_257 (lv_at hl 1 rfl) ?_
                    refine va_iast hx hb hK hP hD hS 1 0 rfl rfl (M_none_in c_3) dX3_extract_259 (fun H locs hP hD hS => ?_)
                    have hP : va_P D vwCl (cMd h q1 q2 cA cB (if rp = rc then (2 : Int32) else (0 : Int32)) ct (upd otf_50 rp.toNatClampNeg 65535) off_51 otd_46 oan_13 qb pa oaT_14 oaF_15 dg fi lo) H := hP
                    have hD : va_D A (cMd h q1 q2 cA cB (if rp = rc then (2 : Int32) else (0 : Int32)) ct (upd otf_50 rp.toNatClampNeg 65535) off_51 otd_46 oan_13 qb pa oaT_14 oaF_15 dg fi lo) := hD
                    refine lv_aload_n hx hb dX3_extract_260 rfl (lv_at hl 2 rfl) ?_
                    refine va_get (v := .ref q2) (C := RX3) (T := TX3) (N := 13) hx hb hts in_X3 hown hK hP 0 rfl rfl 3 (by decide) w_8 (fun _ h9 => h9) rfl dX3_extract_261 ?_
                    refine lv_iload_n hx hb dX3_extract_264 rfl (lv_at hl 4 rfl) ?_
                    refine lv_lload hx hb dX3_extract_265 (lv_at hl 0 rfl) ?_
                    refine va_last hx hb hK hP hD hS 2 1 rfl rfl (M_none_in c_3) dX3_extract_267 (fun H locs hP hD hS => ?_)
                    have hP : va_P D vwCl (cMd h q1 q2 cA cB (if rp = rc then (2 : Int32) else (0 : Int32)) ct (upd otf_50 rp.toNatClampNeg 65535) (vp_updL off_51 rp.toNatClampNeg (-9223372036854775808)) otd_46 oan_13 qb pa oaT_14 oaF_15 dg fi lo) H := hP
                    have hD : va_D A (cMd h q1 q2 cA cB (if rp = rc then (2 : Int32) else (0 : Int32)) ct (upd otf_50 rp.toNatClampNeg 65535) (vp_updL off_51 rp.toNatClampNeg (-9223372036854775808)) otd_46 oan_13 qb pa oaT_14 oaF_15 dg fi lo) := hD
                    refine lv_aload_n hx hb dX3_extract_268 rfl (lv_at hl 2 rfl) ?_
                    refine va_get (v := .int otd_46) (C := RX3) (T := TX3) (N := 13) hx hb hts in_X3 hown hK hP 0 rfl rfl 4 (by decide) w_6 (fun _ h9 => h9) rfl dX3_extract_269 ?_
                    have hw : M_extract tf ff ct td an aT aF dg fi lo ra rp rc = (otd_46, (if rp = rc then (2 : Int32) else (0 : Int32)), (upd otf_50 rp.toNatClampNeg 65535), (vp_updL off_51 rp.toNatClampNeg (-9223372036854775808)), otd_46, oan_13, oaT_14, oaF_15, dg, fi, lo) := by unfold M_extract; rw [if_pos c_1, if_pos c_3, if_pos c_5, if_pos c_7, tup2_e e_10, tup5_e e_16, if_neg c_17, if_neg c_22, if_neg c_23, tup2_e e_47, if_pos c_48, if_neg c_49, tup2_e e_52]; try rfl
                    exact W.iret hx hb hr (fun t9 ht hW => ⟨⟨_, otd_46, rfl, rfl, ⟨(if rp = rc then (2 : Int32) else (0 : Int32)), (upd otf_50 rp.toNatClampNeg 65535), (vp_updL off_51 rp.toNatClampNeg (-9223372036854775808)), otd_46, oan_13, oaT_14, oaF_15, dg, fi, lo, hw, by rw [ht]; exact hP, hD⟩⟩, hS.F ht⟩) hS.2.2 dX3_extract_272
                · refine lv_aload_n hx hb dX3_extract_131 rfl (lv_at hl 2 rfl) ?_
                  refine lv_aload_n hx hb dX3_extract_132 rfl (lv_at hl 2 rfl) ?_
                  refine lv_iload_n hx hb dX3_extract_133 rfl (lv_at hl 3 rfl) ?_
                  refine vp_callSi (va_cr (va_runV (As := [.int ra]) (rest := [.ref h]) ⟨hx, hb, hml, hown, hts⟩ (c_X3_minus l D h q1 q2 cA cB (if rp = rc then (2 : Int32) else (0 : Int32)) ct tf ff otd_46 oan_13 qb pa oaT_14 oaF_15 dg fi lo ra (M_none_in c_1)) (cwV 1 hts gX3_extract_X3_minus rfl rfl rfl kV_X3_minus ⟨Nat.le_of_ble_eq_true rfl, Nat.le_of_ble_eq_true rfl⟩) ⟨PB.blind, va_recv hK hP (ci := 2) (q0 := 0) rfl rfl, PB.pre hK hP⟩ rfl rfl hl.1 rfl (lv_room (Nat.le_of_ble_eq_true rfl)) dX3_extract_134 ⟨Nat.le_of_ble_eq_true rfl, Nat.le_of_ble_eq_true rfl⟩)) (fun r9 e9 => ?_)
                  rw [e9]
                  refine q_cut (v := (if bI (M_minus (tf ra.toNatClampNeg)) = 0 then (0 : Int32) else (32768 : Int32))) (pcJ := 146) (rest := [.ref h]) (fun J => ?_) ?_
                  · refine lv_if_eq (tgt := 145) hx hb dX3_extract_137 (by decide) (fun c_53 => ?_) (fun c_53 => ?_)
                    · refine lv_iconst (v := 0) hx hb dX3_extract_145 (by decide) ?_
                      exact J _ (by rw [if_pos c_53]; try rfl)
                    · refine lv_ldc (v := 32768) hx hb hown w_13 dX3_extract_140 ?_
                      refine lv_goto (tgt := 146) hx hb dX3_extract_142 (by decide) ?_
                      exact J _ (by rw [if_neg c_53]; try rfl)
                  refine lv_lconst (v := 0) hx hb dX3_extract_146 (by decide) ?_
                  have hFc := va_free (wc := cMd h q1 q2 cA cB (if rp = rc then (2 : Int32) else (0 : Int32)) ct tf ff otd_46 oan_13 qb pa oaT_14 oaF_15 dg fi lo) hD hS hA [0, 1, 2] rfl
                  refine va_callv (va_runV (As := [.int (if bI (M_minus (tf ra.toNatClampNeg)) = 0 then (0 : Int32) else (32768 : Int32)), .long 0]) (rest := []) ⟨hx, hb, hml, hown, hts⟩ (c_X3_answer l D h q1 q2 cA cB (if rp = rc then (2 : Int32) else (0 : Int32)) ct tf ff otd_46 oan_13 qb pa oaT_14 oaF_15 dg fi lo (if bI (M_minus (tf ra.toNatClampNeg)) = 0 then (0 : Int32) else (32768 : Int32)) 0 H.size) (cwV 2 hts gX3_extract_X3_answer rfl rfl rfl kV_X3_answer ⟨Nat.le_of_ble_eq_true rfl, Nat.le_of_ble_eq_true rfl⟩) ⟨MMB.blind, va_recv hK hP (ci := 2) (q0 := 0) rfl rfl, MMB.pre hK hP hD⟩ rfl rfl hl.1 rfl (lv_room (Nat.le_of_ble_eq_true rfl)) dX3_extract_147 ⟨Nat.le_of_ble_eq_true rfl, Nat.le_of_ble_eq_true rfl⟩) hS (fun q _ h9 => hFc q h9) hFc (fun u9 t9 H locs ht hvm hw hB hz1 hk1 hS => ?_)
                  obtain ⟨oan_54, oaT_55, oaF_56, e_57, hP, hD9⟩ := hB
                  rw [ht] at hP
                  have hD : va_D A (cMd h q1 q2 cA cB (if rp = rc then (2 : Int32) else (0 : Int32)) ct tf ff otd_46 oan_54 qb pa oaT_55 oaF_56 dg fi lo) := hD9.weaken (fun _ _ _ h => hFc _ h)
                  refine lv_goto (tgt := 240) hx hb dX3_extract_150 (by decide) ?_
                  refine lv_aload_n hx hb dX3_extract_240 rfl (lv_at hl 2 rfl) ?_
                  refine va_get (v := .int (bI oan_54)) (C := RX3) (T := TX3) (N := 13) hx hb hts in_X3 hown hK hP 0 rfl rfl 5 (by decide) w_5 (fun _ h9 => h9) rfl dX3_extract_241 ?_
                  refine lv_if_eq (tgt := 268) hx hb dX3_extract_244 (by decide) (fun c_58 => ?_) (fun c_58 => ?_)
                  · refine lv_aload_n hx hb dX3_extract_268 rfl (lv_at hl 2 rfl) ?_
                    refine va_get (v := .int otd_46) (C := RX3) (T := TX3) (N := 13) hx hb hts in_X3 hown hK hP 0 rfl rfl 4 (by decide) w_6 (fun _ h9 => h9) rfl dX3_extract_269 ?_
                    have hw : M_extract tf ff ct td an aT aF dg fi lo ra rp rc = (otd_46, (if rp = rc then (2 : Int32) else (0 : Int32)), tf, ff, otd_46, oan_54, oaT_55, oaF_56, dg, fi, lo) := by unfold M_extract; rw [if_pos c_1, if_pos c_3, if_pos c_5, if_pos c_7, tup2_e e_10, tup5_e e_16, if_neg c_17, if_neg c_22, if_neg c_23, tup2_e e_47, if_neg c_48, tup3_e e_57, if_pos c_58]; try rfl
                    exact W.iret hx hb hr (fun t9 ht hW => ⟨⟨_, otd_46, rfl, rfl, ⟨(if rp = rc then (2 : Int32) else (0 : Int32)), tf, ff, otd_46, oan_54, oaT_55, oaF_56, dg, fi, lo, hw, by rw [ht]; exact hP, hD⟩⟩, hS.F ht⟩) hS.2.2 dX3_extract_272
                  · refine lv_aload_n hx hb dX3_extract_247 rfl (lv_at hl 2 rfl) ?_
                    refine lv_iload_n hx hb dX3_extract_248 rfl (lv_at hl 5 rfl) ?_
                    have hFc := va_free (wc := cMd h q1 q2 cA cB (if rp = rc then (2 : Int32) else (0 : Int32)) ct tf ff otd_46 oan_54 qb pa oaT_55 oaF_56 dg fi lo) hD hS hA [0, 1, 2] rfl
                    refine va_callv (va_runV (As := [.int rc]) (rest := []) ⟨hx, hb, hml, hown, hts⟩ (c_X3_keep l D h q1 q2 cA cB (if rp = rc then (2 : Int32) else (0 : Int32)) ct tf ff otd_46 oan_54 qb pa oaT_55 oaF_56 dg fi lo rc H.size (M_none_in c_5)) (cwV 1 hts gX3_extract_X3_keep rfl rfl rfl kV_X3_keep ⟨Nat.le_of_ble_eq_true rfl, Nat.le_of_ble_eq_true rfl⟩) ⟨MMB.blind, va_recv hK hP (ci := 2) (q0 := 0) rfl rfl, MMB.pre hK hP hD⟩ rfl rfl hl.1 rfl (lv_room (Nat.le_of_ble_eq_true rfl)) dX3_extract_249 ⟨Nat.le_of_ble_eq_true rfl, Nat.le_of_ble_eq_true rfl⟩) hS (fun q _ h9 => hFc q h9) hFc (fun u9 t9 H locs ht hvm hw hB hz1 hk1 hS => ?_)
                    obtain ⟨otf_59, off_60, e_61, hP, hD9⟩ := hB
                    rw [ht] at hP
                    have hD : va_D A (cMd h q1 q2 cA cB (if rp = rc then (2 : Int32) else (0 : Int32)) ct otf_59 off_60 otd_46 oan_54 qb pa oaT_55 oaF_56 dg fi lo) := hD9.weaken (fun _ _ _ h => hFc _ h)
                    refine lv_aload_n hx hb dX3_extract_252 rfl (lv_at hl 2 rfl) ?_
                    refine va_get (v := .ref q1) (C := RX3) (T := TX3) (N := 13) hx hb hts in_X3 hown hK hP 0 rfl rfl 2 (by decide) w_7 (fun _ h9 => h9) rfl dX3_extract_253 ?_
                    refine lv_iload_n hx hb dX3_extract_256 rfl (lv_at hl 4 rfl) ?_
                    refine lv_iload hx hb dX3_extract_257 (lv_at hl 1 rfl) ?_
                    refine va_iast hx hb hK hP hD hS 1 0 rfl rfl (M_none_in c_3) dX3_extract_259 (fun H locs hP hD hS => ?_)
                    have hP : va_P D vwCl (cMd h q1 q2 cA cB (if rp = rc then (2 : Int32) else (0 : Int32)) ct (upd otf_59 rp.toNatClampNeg 65535) off_60 otd_46 oan_54 qb pa oaT_55 oaF_56 dg fi lo) H := hP
                    have hD : va_D A (cMd h q1 q2 cA cB (if rp = rc then (2 : Int32) else (0 : Int32)) ct (upd otf_59 rp.toNatClampNeg 65535) off_60 otd_46 oan_54 qb pa oaT_55 oaF_56 dg fi lo) := hD
                    refine lv_aload_n hx hb dX3_extract_260 rfl (lv_at hl 2 rfl) ?_
                    refine va_get (v := .ref q2) (C := RX3) (T := TX3) (N := 13) hx hb hts in_X3 hown hK hP 0 rfl rfl 3 (by decide) w_8 (fun _ h9 => h9) rfl dX3_extract_261 ?_
                    refine lv_iload_n hx hb dX3_extract_264 rfl (lv_at hl 4 rfl) ?_
                    refine lv_lload hx hb dX3_extract_265 (lv_at hl 0 rfl) ?_
                    refine va_last hx hb hK hP hD hS 2 1 rfl rfl (M_none_in c_3) dX3_extract_267 (fun H locs hP hD hS => ?_)
                    have hP : va_P D vwCl (cMd h q1 q2 cA cB (if rp = rc then (2 : Int32) else (0 : Int32)) ct (upd otf_59 rp.toNatClampNeg 65535) (vp_updL off_60 rp.toNatClampNeg (-9223372036854775808)) otd_46 oan_54 qb pa oaT_55 oaF_56 dg fi lo) H := hP
                    have hD : va_D A (cMd h q1 q2 cA cB (if rp = rc then (2 : Int32) else (0 : Int32)) ct (upd otf_59 rp.toNatClampNeg 65535) (vp_updL off_60 rp.toNatClampNeg (-9223372036854775808)) otd_46 oan_54 qb pa oaT_55 oaF_56 dg fi lo) := hD
                    refine lv_aload_n hx hb dX3_extract_268 rfl (lv_at hl 2 rfl) ?_
                    refine va_get (v := .int otd_46) (C := RX3) (T := TX3) (N := 13) hx hb hts in_X3 hown hK hP 0 rfl rfl 4 (by decide) w_6 (fun _ h9 => h9) rfl dX3_extract_269 ?_
                    have hw : M_extract tf ff ct td an aT aF dg fi lo ra rp rc = (otd_46, (if rp = rc then (2 : Int32) else (0 : Int32)), (upd otf_59 rp.toNatClampNeg 65535), (vp_updL off_60 rp.toNatClampNeg (-9223372036854775808)), otd_46, oan_54, oaT_55, oaF_56, dg, fi, lo) := by unfold M_extract; rw [if_pos c_1, if_pos c_3, if_pos c_5, if_pos c_7, tup2_e e_10, tup5_e e_16, if_neg c_17, if_neg c_22, if_neg c_23, tup2_e e_47, if_neg c_48, tup3_e e_57, if_neg c_58, tup2_e e_61]; try rfl
                    exact W.iret hx hb hr (fun t9 ht hW => ⟨⟨_, otd_46, rfl, rfl, ⟨(if rp = rc then (2 : Int32) else (0 : Int32)), (upd otf_59 rp.toNatClampNeg 65535), (vp_updL off_60 rp.toNatClampNeg (-9223372036854775808)), otd_46, oan_54, oaT_55, oaF_56, dg, fi, lo, hw, by rw [ht]; exact hP, hD⟩⟩, hS.F ht⟩) hS.2.2 dX3_extract_272
            · refine lv_sipush (v := 32767) hx hb dX3_extract_77 (by decide) ?_
              refine lv_istore (lv' := [(4, .int 32767), (5, .long 0), (0, .ref h), (1, .int ra), (2, .int rp), (3, .int rc)]) hx hb dX3_extract_80 hl (by decide) rfl (fun ls hl => ?_)
              refine lv_ldc2 (v := (-9223372036854775808)) hx hb hown w_12 dX3_extract_82 ?_
              refine lv_lstore (lv' := [(5, .long (-9223372036854775808)), (4, .int 32767), (0, .ref h), (1, .int ra), (2, .int rp), (3, .int rc)]) hx hb dX3_extract_85 hl (by decide) rfl (fun ls hl => ?_)
              refine lv_aload_n hx hb dX3_extract_87 rfl (lv_at hl 2 rfl) ?_
              refine lv_aload_n hx hb dX3_extract_88 rfl (lv_at hl 2 rfl) ?_
              refine va_get (v := .ref q1) (C := RX3) (T := TX3) (N := 13) hx hb hts in_X3 hown hK hP 0 rfl rfl 2 (by decide) w_7 (fun _ h9 => h9) rfl dX3_extract_89 ?_
              refine lv_iload_n hx hb dX3_extract_92 rfl (lv_at hl 3 rfl) ?_
              refine va_iald hx hb hK hP 1 0 rfl rfl (M_none_in c_1) dX3_extract_93 ?_
              refine lv_aload_n hx hb dX3_extract_94 rfl (lv_at hl 2 rfl) ?_
              refine va_get (v := .ref q2) (C := RX3) (T := TX3) (N := 13) hx hb hts in_X3 hown hK hP 0 rfl rfl 3 (by decide) w_8 (fun _ h9 => h9) rfl dX3_extract_95 ?_
              refine lv_iload_n hx hb dX3_extract_98 rfl (lv_at hl 3 rfl) ?_
              refine va_lald hx hb hK hP 2 1 rfl rfl (M_none_in c_1) dX3_extract_99 ?_
              have hFc := va_free (wc := cMd h q1 q2 cA cB (if rp = rc then (2 : Int32) else (0 : Int32)) ct tf ff otd_12 oan_13 qb pa oaT_14 oaF_15 dg fi lo) hD hS hA [0, 1, 2] rfl
              refine va_callv (va_runV (As := [.int (tf ra.toNatClampNeg), .long (ff ra.toNatClampNeg)]) (rest := []) ⟨hx, hb, hml, hown, hts⟩ (c_X3_answer l D h q1 q2 cA cB (if rp = rc then (2 : Int32) else (0 : Int32)) ct tf ff otd_12 oan_13 qb pa oaT_14 oaF_15 dg fi lo (tf ra.toNatClampNeg) (ff ra.toNatClampNeg) H.size) (cwV 2 hts gX3_extract_X3_answer rfl rfl rfl kV_X3_answer ⟨Nat.le_of_ble_eq_true rfl, Nat.le_of_ble_eq_true rfl⟩) ⟨MMB.blind, va_recv hK hP (ci := 2) (q0 := 0) rfl rfl, MMB.pre hK hP hD⟩ rfl rfl hl.1 rfl (lv_room (Nat.le_of_ble_eq_true rfl)) dX3_extract_100 ⟨Nat.le_of_ble_eq_true rfl, Nat.le_of_ble_eq_true rfl⟩) hS (fun q _ h9 => hFc q h9) hFc (fun u9 t9 H locs ht hvm hw hB hz1 hk1 hS => ?_)
              obtain ⟨oan_62, oaT_63, oaF_64, e_65, hP, hD9⟩ := hB
              rw [ht] at hP
              have hD : va_D A (cMd h q1 q2 cA cB (if rp = rc then (2 : Int32) else (0 : Int32)) ct tf ff otd_12 oan_62 qb pa oaT_63 oaF_64 dg fi lo) := hD9.weaken (fun _ _ _ h => hFc _ h)
              refine lv_goto (tgt := 240) hx hb dX3_extract_103 (by decide) ?_
              refine lv_aload_n hx hb dX3_extract_240 rfl (lv_at hl 2 rfl) ?_
              refine va_get (v := .int (bI oan_62)) (C := RX3) (T := TX3) (N := 13) hx hb hts in_X3 hown hK hP 0 rfl rfl 5 (by decide) w_5 (fun _ h9 => h9) rfl dX3_extract_241 ?_
              refine lv_if_eq (tgt := 268) hx hb dX3_extract_244 (by decide) (fun c_66 => ?_) (fun c_66 => ?_)
              · refine lv_aload_n hx hb dX3_extract_268 rfl (lv_at hl 2 rfl) ?_
                refine va_get (v := .int otd_12) (C := RX3) (T := TX3) (N := 13) hx hb hts in_X3 hown hK hP 0 rfl rfl 4 (by decide) w_6 (fun _ h9 => h9) rfl dX3_extract_269 ?_
                have hw : M_extract tf ff ct td an aT aF dg fi lo ra rp rc = (otd_12, (if rp = rc then (2 : Int32) else (0 : Int32)), tf, ff, otd_12, oan_62, oaT_63, oaF_64, dg, fi, lo) := by unfold M_extract; rw [if_pos c_1, if_pos c_3, if_pos c_5, if_pos c_7, tup2_e e_10, tup5_e e_16, if_neg c_17, if_pos c_22, tup3_e e_65, if_pos c_66]; try rfl
                exact W.iret hx hb hr (fun t9 ht hW => ⟨⟨_, otd_12, rfl, rfl, ⟨(if rp = rc then (2 : Int32) else (0 : Int32)), tf, ff, otd_12, oan_62, oaT_63, oaF_64, dg, fi, lo, hw, by rw [ht]; exact hP, hD⟩⟩, hS.F ht⟩) hS.2.2 dX3_extract_272
              · refine lv_aload_n hx hb dX3_extract_247 rfl (lv_at hl 2 rfl) ?_
                refine lv_iload_n hx hb dX3_extract_248 rfl (lv_at hl 5 rfl) ?_
                have hFc := va_free (wc := cMd h q1 q2 cA cB (if rp = rc then (2 : Int32) else (0 : Int32)) ct tf ff otd_12 oan_62 qb pa oaT_63 oaF_64 dg fi lo) hD hS hA [0, 1, 2] rfl
                refine va_callv (va_runV (As := [.int rc]) (rest := []) ⟨hx, hb, hml, hown, hts⟩ (c_X3_keep l D h q1 q2 cA cB (if rp = rc then (2 : Int32) else (0 : Int32)) ct tf ff otd_12 oan_62 qb pa oaT_63 oaF_64 dg fi lo rc H.size (M_none_in c_5)) (cwV 1 hts gX3_extract_X3_keep rfl rfl rfl kV_X3_keep ⟨Nat.le_of_ble_eq_true rfl, Nat.le_of_ble_eq_true rfl⟩) ⟨MMB.blind, va_recv hK hP (ci := 2) (q0 := 0) rfl rfl, MMB.pre hK hP hD⟩ rfl rfl hl.1 rfl (lv_room (Nat.le_of_ble_eq_true rfl)) dX3_extract_249 ⟨Nat.le_of_ble_eq_true rfl, Nat.le_of_ble_eq_true rfl⟩) hS (fun q _ h9 => hFc q h9) hFc (fun u9 t9 H locs ht hvm hw hB hz1 hk1 hS => ?_)
                obtain ⟨otf_67, off_68, e_69, hP, hD9⟩ := hB
                rw [ht] at hP
                have hD : va_D A (cMd h q1 q2 cA cB (if rp = rc then (2 : Int32) else (0 : Int32)) ct otf_67 off_68 otd_12 oan_62 qb pa oaT_63 oaF_64 dg fi lo) := hD9.weaken (fun _ _ _ h => hFc _ h)
                refine lv_aload_n hx hb dX3_extract_252 rfl (lv_at hl 2 rfl) ?_
                refine va_get (v := .ref q1) (C := RX3) (T := TX3) (N := 13) hx hb hts in_X3 hown hK hP 0 rfl rfl 2 (by decide) w_7 (fun _ h9 => h9) rfl dX3_extract_253 ?_
                refine lv_iload_n hx hb dX3_extract_256 rfl (lv_at hl 4 rfl) ?_
                refine lv_iload hx hb dX3_extract_257 (lv_at hl 1 rfl) ?_
                refine va_iast hx hb hK hP hD hS 1 0 rfl rfl (M_none_in c_3) dX3_extract_259 (fun H locs hP hD hS => ?_)
                have hP : va_P D vwCl (cMd h q1 q2 cA cB (if rp = rc then (2 : Int32) else (0 : Int32)) ct (upd otf_67 rp.toNatClampNeg 32767) off_68 otd_12 oan_62 qb pa oaT_63 oaF_64 dg fi lo) H := hP
                have hD : va_D A (cMd h q1 q2 cA cB (if rp = rc then (2 : Int32) else (0 : Int32)) ct (upd otf_67 rp.toNatClampNeg 32767) off_68 otd_12 oan_62 qb pa oaT_63 oaF_64 dg fi lo) := hD
                refine lv_aload_n hx hb dX3_extract_260 rfl (lv_at hl 2 rfl) ?_
                refine va_get (v := .ref q2) (C := RX3) (T := TX3) (N := 13) hx hb hts in_X3 hown hK hP 0 rfl rfl 3 (by decide) w_8 (fun _ h9 => h9) rfl dX3_extract_261 ?_
                refine lv_iload_n hx hb dX3_extract_264 rfl (lv_at hl 4 rfl) ?_
                refine lv_lload hx hb dX3_extract_265 (lv_at hl 0 rfl) ?_
                refine va_last hx hb hK hP hD hS 2 1 rfl rfl (M_none_in c_3) dX3_extract_267 (fun H locs hP hD hS => ?_)
                have hP : va_P D vwCl (cMd h q1 q2 cA cB (if rp = rc then (2 : Int32) else (0 : Int32)) ct (upd otf_67 rp.toNatClampNeg 32767) (vp_updL off_68 rp.toNatClampNeg (-9223372036854775808)) otd_12 oan_62 qb pa oaT_63 oaF_64 dg fi lo) H := hP
                have hD : va_D A (cMd h q1 q2 cA cB (if rp = rc then (2 : Int32) else (0 : Int32)) ct (upd otf_67 rp.toNatClampNeg 32767) (vp_updL off_68 rp.toNatClampNeg (-9223372036854775808)) otd_12 oan_62 qb pa oaT_63 oaF_64 dg fi lo) := hD
                refine lv_aload_n hx hb dX3_extract_268 rfl (lv_at hl 2 rfl) ?_
                refine va_get (v := .int otd_12) (C := RX3) (T := TX3) (N := 13) hx hb hts in_X3 hown hK hP 0 rfl rfl 4 (by decide) w_6 (fun _ h9 => h9) rfl dX3_extract_269 ?_
                have hw : M_extract tf ff ct td an aT aF dg fi lo ra rp rc = (otd_12, (if rp = rc then (2 : Int32) else (0 : Int32)), (upd otf_67 rp.toNatClampNeg 32767), (vp_updL off_68 rp.toNatClampNeg (-9223372036854775808)), otd_12, oan_62, oaT_63, oaF_64, dg, fi, lo) := by unfold M_extract; rw [if_pos c_1, if_pos c_3, if_pos c_5, if_pos c_7, tup2_e e_10, tup5_e e_16, if_neg c_17, if_pos c_22, tup3_e e_65, if_neg c_66, tup2_e e_69]; try rfl
                exact W.iret hx hb hr (fun t9 ht hW => ⟨⟨_, otd_12, rfl, rfl, ⟨(if rp = rc then (2 : Int32) else (0 : Int32)), (upd otf_67 rp.toNatClampNeg 32767), (vp_updL off_68 rp.toNatClampNeg (-9223372036854775808)), otd_12, oan_62, oaT_63, oaF_64, dg, fi, lo, hw, by rw [ht]; exact hP, hD⟩⟩, hS.F ht⟩) hS.2.2 dX3_extract_272
        · refine lv_iconst (v := 0) hx hb dX3_extract_46 (by decide) ?_
          have hw : M_extract tf ff ct td an aT aF dg fi lo ra rp rc = (0, (if rp = rc then (2 : Int32) else (0 : Int32)), tf, ff, td, an, aT, aF, dg, fi, lo) := by unfold M_extract; rw [if_pos c_1, if_pos c_3, if_pos c_5, if_neg c_7]; try rfl
          exact W.iret hx hb hr (fun t9 ht hW => ⟨⟨_, 0, rfl, rfl, ⟨(if rp = rc then (2 : Int32) else (0 : Int32)), tf, ff, td, an, aT, aF, dg, fi, lo, hw, by rw [ht]; exact hP, hD⟩⟩, hS.F ht⟩) hS.2.2 dX3_extract_47
      · refine lv_iconst (v := 1) hx hb dX3_extract_22 (by decide) ?_
        refine lv_goto (tgt := 36) hx hb dX3_extract_23 (by decide) ?_
        refine va_put (v := .int 1) (ty := .int) (C := RX3) (T := TX3) (N := 13) hx hb hts in_X3 tyX3 tyX3_ok nmX3 hown hK hP hD hS 0 rfl rfl 0 (by decide) w_1 (fun _ h9 => h9) rfl (tyX3_ok 0 (by decide)) rfl rfl (Nat.le_of_ble_eq_true rfl) dX3_extract_36 (fun H locs hP hD hS => ?_)
        have hP : va_P D vwCl (cMd h q1 q2 cA cB 1 ct tf ff td an qb pa aT aF dg fi lo) H := hP
        have hD : va_D A (cMd h q1 q2 cA cB 1 ct tf ff td an qb pa aT aF dg fi lo) := hD
        refine lv_aload_n hx hb dX3_extract_39 rfl (lv_at hl 0 rfl) ?_
        refine va_get (v := .int 1) (C := RX3) (T := TX3) (N := 13) hx hb hts in_X3 hown hK hP 0 rfl rfl 0 (by decide) w_1 (fun _ h9 => h9) rfl dX3_extract_40 ?_
        refine lv_if_le (tgt := 48) hx hb dX3_extract_43 (by decide) (fun c_70 => ?_) (fun c_70 => ?_)
        · exact absurd c_70 (by decide)
        · refine lv_iconst (v := 0) hx hb dX3_extract_46 (by decide) ?_
          have hw : M_extract tf ff ct td an aT aF dg fi lo ra rp rc = (0, 1, tf, ff, td, an, aT, aF, dg, fi, lo) := by unfold M_extract; rw [if_pos c_1, if_pos c_3, if_neg c_5]; try rfl
          exact W.iret hx hb hr (fun t9 ht hW => ⟨⟨_, 0, rfl, rfl, ⟨1, tf, ff, td, an, aT, aF, dg, fi, lo, hw, by rw [ht]; exact hP, hD⟩⟩, hS.F ht⟩) hS.2.2 dX3_extract_47
