/-! the law's own methods -/
abbrev tL (cA cB cC : ClassId) : List (ClassId × FieldType) := [(cA, .int), (cB, .long), (cC, .long)]
abbrev cL (h q1 q2 : Nat) (cA cB : ClassId) (tf : Nat → Int32) (ff : Nat → Int64) (cw td : Int32) (an : Bool) (qb : Int32) (pa : Bool) (o : Nat) (cC : ClassId) (fo : Nat → Int64) : va_W := [(h, .inr (1, [.ref q1, .ref q2, .int cw, .int td, .int (bI an), .int qb, .int (bI pa)])), (q1, .inl (cA, 8, .inl tf)), (q2, .inl (cB, 8, .inr (.inl ff))), (o, .inl (cC, 1, .inr (.inl fo)))]
theorem cL_D {A : Nat → Prop} {h q1 q2 o : Nat} {e1 e2 e3 e4 : va_E} (f1 f2 f3 f4 : va_E) (hD : va_D A [(h, e1), (q1, e2), (q2, e3), (o, e4)]) : va_D A [(h, f1), (q1, f2), (q2, f3), (o, f4)] := (((hD.set (p := 0) (e := f1) rfl).set (p := 1) (e := f2) rfl).set (p := 2) (e := f3) rfl).set (p := 3) (e := f4) rfl
theorem in_01 : vp_in 0 1 := by rw [vp_in_iff]; decide
theorem updL_0 (fo : Nat → Int64) (v : Int64) : vp_updL fo (0 : Int32).toNatClampNeg v 0 = v := by
  have e0 : (0 : Int32).toNatClampNeg = 0 := rfl
  rw [e0]
  exact if_pos rfl
theorem kS_L_control : yL_control.cls ≠ "java/lang/invoke/MethodHandle" ∧ yL_control.cls ≠ "java/lang/invoke/VarHandle" ∧ (parseMethodDescriptor yL_control.desc).map (fun d => d.parameters.length) = some 2 := by decide +kernel
set_option maxHeartbeats 4000000 in
set_option maxRecDepth 100000 in
theorem c_L_control (l : Launch) (hl9 : l.stackTraces = false) (D : va_G) (ad : Nat → Nat) (h : Nat) (q1 : Nat) (q2 : Nat) (cA : ClassId) (cB : ClassId) (tf : Nat → Int32) (ff : Nat → Int64) (cw : Int32) (td : Int32) (an : Bool) (qb : Int32) (pa : Bool) (wd : Int32) (sz : Nat) : Met l yL_control wsL_control ({ frames := 7, cells := 1, slots := 6, locals := 111 } : Room) (va_Pc [.ref h, .int wd] (TXB (MRB D ad h q1 q2 (tRS cA cB) (cRS h q1 q2 cA cB tf ff cw td an qb pa) [] sz))) (va_Qi (fun (r u : Int32) => r = u) (fun u t => ∃ (w_cw : Int32), R_control cw wd = (u, w_cw) ∧ va_P D vwCl (cRS h q1 q2 cA cB tf ff w_cw td an qb pa) t.heap ∧ va_D (va_A (cRS h q1 q2 cA cB tf ff cw td an qb pa) sz) (cRS h q1 q2 cA cB tf ff w_cw td an qb pa)) (va_A (cRS h q1 q2 cA cB tf ff cw td an qb pa) sz)) 1 6 (va_A (cRS h q1 q2 cA cB tf ff cw td an qb pa) sz) := by
  refine va_MetW (cc := cL_control) (maxL := 3) (ret := some .int) (hh := [(0, 5, 8, 13)]) (by decide) rfl ?_
  intro p e s m args below meth c s₁ B hml hv
  have htab := vx_table (x := yL_control) B (atoms_spec (ws := wsL_control) B.pre _ List.mem_cons_self)
  obtain ⟨rfl, ⟨hsz, hP, hK, hD0, hR0, hRp, hE⟩, hDW⟩ := hv
  have hx := B.exec
  have hb := B.bytes
  have hr := B.returns
  have hts := atoms_spec (ws := wsL_control) B.pre
  have hown : s.vm.findClass RL = some m.cls := findClass_of_methodNamed B.named
  have w_1 := hts (.classLink RL 13 xIAE) (by decide +kernel)
  subst hsz
  have hD := hD0.self (sz := s.heap.size)
  generalize hAe : va_A (cRS h q1 q2 cA cB tf ff cw td an qb pa) s.heap.size = A at hD hE ⊢
  have hA : ∀ q : Nat, s.heap.size ≤ q → A q := fun q h => by rw [← hAe]; exact Or.inr h
  have hS : va_S A s.heap s.heap [] := va_S.rf
  have hP : va_P D vwCl (cRS h q1 q2 cA cB tf ff cw td an qb pa) s.heap := hP
  have hl := lv_entry ([.ref h, .int wd]) (n := 3) (Nat.le_of_ble_eq_true rfl)
  rw [lg_entry_eq]
  generalize (lg_sl ([.ref h, .int wd]) ++ List.replicate (3 - (lg_sl ([.ref h, .int wd])).length) Slot.unset).toArray = ls at hl ⊢
  have hl : lv_has ls 3 [(0, .ref h), (1, .int wd)] := hl
  refine lv_aload_n hx hb dL_control_0 rfl (lv_at hl 0 rfl) ?_
  refine lv_iload_n hx hb dL_control_1 rfl (lv_at hl 1 rfl) ?_
  have hK3 := hK
  have hP3 := hP
  have hD3 := hD
  have hFc := va_free (wc := cRS h q1 q2 cA cB tf ff cw td an qb pa) hD hS hA [0, 1, 2] rfl
  refine vx_callv (vx_runV (As := [.int wd]) (rest := []) ⟨hx, hb, hml, hown, hts⟩ (c_X2_control l hl9 D ad h q1 q2 cA cB tf ff cw td an qb pa wd s.heap.size) (cwV 1 hts gL_control_X2_control rfl rfl rfl kV_X2_control ⟨Nat.le_of_ble_eq_true rfl, Nat.le_of_ble_eq_true rfl⟩) ⟨TXB.blind MRB.blind, va_recv hK3 hP3 (ci := 1) (q0 := 0) rfl rfl, TXB.pre (MRB.pre hK3 hP3 hD3 vP_nil ap_nil hE hS hFc) hDW⟩ rfl rfl hl.1 rfl (lv_room (Nat.le_of_ble_eq_true rfl)) dL_control_2 ⟨Nat.le_of_ble_eq_true rfl, Nat.le_of_ble_eq_true rfl⟩) hS (fun q _ h9 => hFc q h9) hFc (fun q _ h9 => hFc q h9) (fun E9 ce9 q9 u9 t9 H9 locs9 ht hvm hw hB hz1 hk1 hS9 hce9 hcv9 hcl9 => ?_) (fun u9 t9 H locs ht hvm hw hB hz1 hk1 hS => ?_)
  · obtain ⟨k9, hq, hc9, hP3⟩ := hB
    rw [ht] at hP3
    have hP9 := hP3
    have htab : c.exceptionTable.toList = [{ startPc := 0, endPc := 5, handlerPc := 8, catchType := 13 }] := htab
    obtain ⟨hE9, hk9⟩ := hc9
    subst hk9
    subst hE9
    refine vx_catch hown [] ({ startPc := 0, endPc := 5, handlerPc := 8, catchType := 13 }) [] htab (fun z hz => absurd hz List.not_mem_nil) rfl (by decide) w_1 (va_Nw.use rfl (hE.2.2.1 (.castable xIAE xIAE) (by decide))) hce9 hcv9 hcl9 ?_
    refine lv_astore_n (lv' := [(2, .ref q9), (0, .ref h), (1, .int wd)]) hx hb dL_control_8 rfl hl (by decide) rfl (fun ls hl => ?_)
    refine lv_iconst (v := 1) hx hb dL_control_9 (by decide) ?_
    exact W.iret hx hb hr (fun t9 ht hW => ⟨⟨_, 1, rfl, rfl, ⟨cw, hq, by rw [ht]; exact hP9, hD⟩⟩, hS9.F ht⟩) hS9.2.2 dL_control_10
  · obtain ⟨o_cw, hq, hP3, hD9⟩ := hB
    rw [ht] at hP3
    have hP := hP3
    have hD : va_D A (cRS h q1 q2 cA cB tf ff o_cw td an qb pa) := hD9.weaken (fun _ _ _ h => hFc _ h)
    refine lv_goto (tgt := 11) hx hb dL_control_5 (by decide) ?_
    refine lv_iconst (v := 0) hx hb dL_control_11 (by decide) ?_
    exact W.iret hx hb hr (fun t9 ht hW => ⟨⟨_, 0, rfl, rfl, ⟨o_cw, hq, by rw [ht]; exact hP, hD⟩⟩, hS.F ht⟩) hS.2.2 dL_control_12
theorem kS_L_set : yL_set.cls ≠ "java/lang/invoke/MethodHandle" ∧ yL_set.cls ≠ "java/lang/invoke/VarHandle" ∧ (parseMethodDescriptor yL_set.desc).map (fun d => d.parameters.length) = some 5 := by decide +kernel
set_option maxHeartbeats 4000000 in
set_option maxRecDepth 100000 in
theorem c_L_set (l : Launch) (hl9 : l.stackTraces = false) (D : va_G) (ad : Nat → Nat) (h : Nat) (q1 : Nat) (q2 : Nat) (cA : ClassId) (cB : ClassId) (tf : Nat → Int32) (ff : Nat → Int64) (cw : Int32) (td : Int32) (an : Bool) (qb : Int32) (pa : Bool) (rg : Int32) (tp : Int32) (hi : Int32) (lw : Int32) (sz : Nat) : Met l yL_set wsL_set ({ frames := 8, cells := 2, slots := 12, locals := 134 } : Room) (va_Pc [.ref h, .int rg, .int tp, .int hi, .int lw] (TXB (MRB D ad h q1 q2 (tRS cA cB) (cRS h q1 q2 cA cB tf ff cw td an qb pa) [] sz))) (va_Qi (fun (r u : Int32) => r = u) (fun u t => ∃ (w_tf : Nat → Int32) (w_ff : Nat → Int64), R_set tf ff rg tp hi lw = (u, w_tf, w_ff) ∧ va_P D vwCl (cRS h q1 q2 cA cB w_tf w_ff cw td an qb pa) t.heap ∧ va_D (va_A (cRS h q1 q2 cA cB tf ff cw td an qb pa) sz) (cRS h q1 q2 cA cB w_tf w_ff cw td an qb pa)) (va_A (cRS h q1 q2 cA cB tf ff cw td an qb pa) sz)) 2 12 (va_A (cRS h q1 q2 cA cB tf ff cw td an qb pa) sz) := by
  refine va_MetW (cc := cL_set) (maxL := 6) (ret := some .int) (hh := [(0, 9, 12, 19), (0, 9, 16, 13)]) (by decide) rfl ?_
  intro p e s m args below meth c s₁ B hml hv
  have htab := vx_table (x := yL_set) B (atoms_spec (ws := wsL_set) B.pre _ List.mem_cons_self)
  obtain ⟨rfl, ⟨hsz, hP, hK, hD0, hR0, hRp, hE⟩, hDW⟩ := hv
  have hx := B.exec
  have hb := B.bytes
  have hr := B.returns
  have hts := atoms_spec (ws := wsL_set) B.pre
  have hown : s.vm.findClass RL = some m.cls := findClass_of_methodNamed B.named
  have w_1 := hts (.classLink RL 19 xIOB) (by decide +kernel)
  have w_2 := hts (.classLink RL 13 xIAE) (by decide +kernel)
  subst hsz
  have hD := hD0.self (sz := s.heap.size)
  generalize hAe : va_A (cRS h q1 q2 cA cB tf ff cw td an qb pa) s.heap.size = A at hD hE ⊢
  have hA : ∀ q : Nat, s.heap.size ≤ q → A q := fun q h => by rw [← hAe]; exact Or.inr h
  have hS : va_S A s.heap s.heap [] := va_S.rf
  have hP : va_P D vwCl (cRS h q1 q2 cA cB tf ff cw td an qb pa) s.heap := hP
  have hl := lv_entry ([.ref h, .int rg, .int tp, .int hi, .int lw]) (n := 6) (Nat.le_of_ble_eq_true rfl)
  rw [lg_entry_eq]
  generalize (lg_sl ([.ref h, .int rg, .int tp, .int hi, .int lw]) ++ List.replicate (6 - (lg_sl ([.ref h, .int rg, .int tp, .int hi, .int lw])).length) Slot.unset).toArray = ls at hl ⊢
  have hl : lv_has ls 6 [(0, .ref h), (1, .int rg), (2, .int tp), (3, .int hi), (4, .int lw)] := hl
  refine lv_aload_n hx hb dL_set_0 rfl (lv_at hl 0 rfl) ?_
  refine lv_iload_n hx hb dL_set_1 rfl (lv_at hl 1 rfl) ?_
  refine lv_iload_n hx hb dL_set_2 rfl (lv_at hl 2 rfl) ?_
  refine lv_iload_n hx hb dL_set_3 rfl (lv_at hl 3 rfl) ?_
  refine lv_iload hx hb dL_set_4 (lv_at hl 4 rfl) ?_
  have hK3 := hK
  have hP3 := hP
  have hD3 := hD
  have hFc := va_free (wc := cRS h q1 q2 cA cB tf ff cw td an qb pa) hD hS hA [0, 1, 2] rfl
  refine vx_callv (vx_runV (As := [.int rg, .int tp, .int hi, .int lw]) (rest := []) ⟨hx, hb, hml, hown, hts⟩ (c_X2_set l hl9 D ad h q1 q2 cA cB tf ff cw td an qb pa rg tp hi lw s.heap.size) (cwV 4 hts gL_set_X2_set rfl rfl rfl kV_X2_set ⟨Nat.le_of_ble_eq_true rfl, Nat.le_of_ble_eq_true rfl⟩) ⟨TXB.blind MRB.blind, va_recv hK3 hP3 (ci := 1) (q0 := 0) rfl rfl, TXB.pre (MRB.pre hK3 hP3 hD3 vP_nil ap_nil hE hS hFc) hDW⟩ rfl rfl hl.1 rfl (lv_room (Nat.le_of_ble_eq_true rfl)) dL_set_6 ⟨Nat.le_of_ble_eq_true rfl, Nat.le_of_ble_eq_true rfl⟩) hS (fun q _ h9 => hFc q h9) hFc (fun q _ h9 => hFc q h9) (fun E9 ce9 q9 u9 t9 H9 locs9 ht hvm hw hB hz1 hk1 hS9 hce9 hcv9 hcl9 => ?_) (fun u9 t9 H locs ht hvm hw hB hz1 hk1 hS => ?_)
  · obtain ⟨k9, hq, hc9, hP3⟩ := hB
    rw [ht] at hP3
    have hP9 := hP3
    have htab : c.exceptionTable.toList = [{ startPc := 0, endPc := 9, handlerPc := 12, catchType := 19 }, { startPc := 0, endPc := 9, handlerPc := 16, catchType := 13 }] := htab
    rcases hc9 with ⟨hE9, hk9⟩ | ⟨hE9, hk9⟩
    · subst hk9
      subst hE9
      refine vx_catch hown [] ({ startPc := 0, endPc := 9, handlerPc := 12, catchType := 19 }) [{ startPc := 0, endPc := 9, handlerPc := 16, catchType := 13 }] htab (fun z hz => absurd hz List.not_mem_nil) rfl (by decide) w_1 (va_Nw.use rfl (hE.2.2.1 (.castable xIOB xIOB) (by decide))) hce9 hcv9 hcl9 ?_
      refine lv_astore (lv' := [(5, .ref q9), (0, .ref h), (1, .int rg), (2, .int tp), (3, .int hi), (4, .int lw)]) hx hb dL_set_12 hl (by decide) rfl (fun ls hl => ?_)
      refine lv_iconst (v := 1) hx hb dL_set_14 (by decide) ?_
      exact W.iret hx hb hr (fun t9 ht hW => ⟨⟨_, 1, rfl, rfl, ⟨tf, ff, hq, by rw [ht]; exact hP9, hD⟩⟩, hS9.F ht⟩) hS9.2.2 dL_set_15
    · subst hk9
      subst hE9
      refine vx_catch hown [{ startPc := 0, endPc := 9, handlerPc := 12, catchType := 19 }] ({ startPc := 0, endPc := 9, handlerPc := 16, catchType := 13 }) [] htab (fun z hz => by rw [List.mem_singleton.mp hz]; exact Or.inr ⟨by decide, xIOB, w_1, hE.2.2.2.2.2.2.2.2.1⟩) rfl (by decide) w_2 (va_Nw.use rfl (hE.2.2.1 (.castable xIAE xIAE) (by decide))) hce9 hcv9 hcl9 ?_
      refine lv_astore (lv' := [(5, .ref q9), (0, .ref h), (1, .int rg), (2, .int tp), (3, .int hi), (4, .int lw)]) hx hb dL_set_16 hl (by decide) rfl (fun ls hl => ?_)
      refine lv_iconst (v := 2) hx hb dL_set_18 (by decide) ?_
      exact W.iret hx hb hr (fun t9 ht hW => ⟨⟨_, 2, rfl, rfl, ⟨tf, ff, hq, by rw [ht]; exact hP9, hD⟩⟩, hS9.F ht⟩) hS9.2.2 dL_set_19
  · obtain ⟨o_tf, o_ff, hq, hP3, hD9⟩ := hB
    rw [ht] at hP3
    have hP := hP3
    have hD : va_D A (cRS h q1 q2 cA cB o_tf o_ff cw td an qb pa) := hD9.weaken (fun _ _ _ h => hFc _ h)
    refine lv_goto (tgt := 20) hx hb dL_set_9 (by decide) ?_
    refine lv_iconst (v := 0) hx hb dL_set_20 (by decide) ?_
    exact W.iret hx hb hr (fun t9 ht hW => ⟨⟨_, 0, rfl, rfl, ⟨o_tf, o_ff, hq, by rw [ht]; exact hP, hD⟩⟩, hS.F ht⟩) hS.2.2 dL_set_21
theorem kS_L_part : yL_part.cls ≠ "java/lang/invoke/MethodHandle" ∧ yL_part.cls ≠ "java/lang/invoke/VarHandle" ∧ (parseMethodDescriptor yL_part.desc).map (fun d => d.parameters.length) = some 4 := by decide +kernel
set_option maxHeartbeats 4000000 in
set_option maxRecDepth 100000 in
theorem c_L_part (l : Launch) (hl9 : l.stackTraces = false) (D : va_G) (ad : Nat → Nat) (h : Nat) (q1 : Nat) (q2 : Nat) (cA : ClassId) (cB : ClassId) (tf : Nat → Int32) (ff : Nat → Int64) (cw : Int32) (td : Int32) (an : Bool) (qb : Int32) (pa : Bool) (o : Nat) (cC : ClassId) (fo : Nat → Int64) (rg : Int32) (wh : Int32) (sz : Nat) : Met l yL_part wsL_part ({ frames := 8, cells := 2, slots := 12, locals := 132 } : Room) (va_Pc [.ref h, .int rg, .int wh, .ref o] (TXB (MRB D ad h q1 q2 (tL cA cB cC) (cL h q1 q2 cA cB tf ff cw td an qb pa o cC fo) [] sz))) (va_Qi (fun (r u : Int32) => r = u) (fun u t => ∃ (v : Int32) (w_fo : Nat → Int64), R_part tf ff rg wh = (v, u) ∧ (u = 0 → w_fo 0 = v.toInt64) ∧ va_P D vwCl (cL h q1 q2 cA cB tf ff cw td an qb pa o cC w_fo) t.heap ∧ va_D (va_A (cL h q1 q2 cA cB tf ff cw td an qb pa o cC fo) sz) (cL h q1 q2 cA cB tf ff cw td an qb pa o cC w_fo)) (va_A (cL h q1 q2 cA cB tf ff cw td an qb pa o cC fo) sz)) 2 12 (va_A (cL h q1 q2 cA cB tf ff cw td an qb pa o cC fo) sz) := by
  refine va_MetW (cc := cL_part) (maxL := 5) (ret := some .int) (hh := [(0, 10, 13, 19), (0, 10, 17, 13)]) (by decide) rfl ?_
  intro p e s m args below meth c s₁ B hml hv
  have htab := vx_table (x := yL_part) B (atoms_spec (ws := wsL_part) B.pre _ List.mem_cons_self)
  obtain ⟨rfl, ⟨hsz, hP, hK, hD0, hR0, hRp, hE⟩, hDW⟩ := hv
  have hx := B.exec
  have hb := B.bytes
  have hr := B.returns
  have hts := atoms_spec (ws := wsL_part) B.pre
  have hown : s.vm.findClass RL = some m.cls := findClass_of_methodNamed B.named
  have w_1 := hts (.classLink RL 19 xIOB) (by decide +kernel)
  have w_2 := hts (.classLink RL 13 xIAE) (by decide +kernel)
  subst hsz
  have hD := hD0.self (sz := s.heap.size)
  generalize hAe : va_A (cL h q1 q2 cA cB tf ff cw td an qb pa o cC fo) s.heap.size = A at hD hE ⊢
  have hA : ∀ q : Nat, s.heap.size ≤ q → A q := fun q h => by rw [← hAe]; exact Or.inr h
  have hS : va_S A s.heap s.heap [] := va_S.rf
  have hP : va_P D vwCl (cL h q1 q2 cA cB tf ff cw td an qb pa o cC fo) s.heap := hP
  have nxo : ap3 o h q1 q2 := ap_D hD
  have hl := lv_entry ([.ref h, .int rg, .int wh, .ref o]) (n := 5) (Nat.le_of_ble_eq_true rfl)
  rw [lg_entry_eq]
  generalize (lg_sl ([.ref h, .int rg, .int wh, .ref o]) ++ List.replicate (5 - (lg_sl ([.ref h, .int rg, .int wh, .ref o])).length) Slot.unset).toArray = ls at hl ⊢
  have hl : lv_has ls 5 [(0, .ref h), (1, .int rg), (2, .int wh), (3, .ref o)] := hl
  refine lv_aload_n hx hb dL_part_0 rfl (lv_at hl 3 rfl) ?_
  refine lv_iconst (v := 0) hx hb dL_part_1 (by decide) ?_
  refine lv_aload_n hx hb dL_part_2 rfl (lv_at hl 0 rfl) ?_
  refine lv_iload_n hx hb dL_part_3 rfl (lv_at hl 1 rfl) ?_
  refine lv_iload_n hx hb dL_part_4 rfl (lv_at hl 2 rfl) ?_
  have hK3 : va_K D vwCl (tRS cA cB) s := hK.sub [0, 1] rfl
  have hP3 : va_P D vwCl (cRS h q1 q2 cA cB tf ff cw td an qb pa) s.heap := hP.sub [0, 1, 2] rfl
  have hD3 : va_D A (cRS h q1 q2 cA cB tf ff cw td an qb pa) := hD.sub [0, 1, 2] (by decide) rfl
  have hFc := va_free (wc := cRS h q1 q2 cA cB tf ff cw td an qb pa) hD hS hA [0, 1, 2] rfl
  refine vx_calli (vx_runV (As := [.int rg, .int wh]) (rest := [.int 0, .ref o]) ⟨hx, hb, hml, hown, hts⟩ (c_X2_part l hl9 D ad h q1 q2 cA cB tf ff cw td an qb pa rg wh s.heap.size) (cwV 2 hts gL_part_X2_part rfl rfl rfl kV_X2_part ⟨Nat.le_of_ble_eq_true rfl, Nat.le_of_ble_eq_true rfl⟩) ⟨TXB.blind MRB.blind, va_recv hK3 hP3 (ci := 1) (q0 := 0) rfl rfl, TXB.pre (MRB.pre hK3 hP3 hD3 vP_nil ap_nil hE hS hFc) hDW⟩ rfl rfl hl.1 rfl (lv_room (Nat.le_of_ble_eq_true rfl)) dL_part_5 ⟨Nat.le_of_ble_eq_true rfl, Nat.le_of_ble_eq_true rfl⟩) hS (fun q _ h9 => hFc q h9) hFc (fun q _ h9 => hFc q h9) (fun E9 ce9 q9 u9 t9 H9 locs9 ht hvm hw hB hz1 hk1 hS9 hce9 hcv9 hcl9 => ?_) (fun v9 u9 t9 H locs ht hvm hw hB hz1 hk1 hS => ?_)
  · obtain ⟨k9, hq, hc9, hP3⟩ := hB
    rw [ht] at hP3
    have hP9 : va_P D vwCl (cL h q1 q2 cA cB tf ff cw td an qb pa o cC fo) H9 := hP3.app (ro_keep (hP.sub [3] rfl) nxo hk1)
    have htab : c.exceptionTable.toList = [{ startPc := 0, endPc := 10, handlerPc := 13, catchType := 19 }, { startPc := 0, endPc := 10, handlerPc := 17, catchType := 13 }] := htab
    rcases hc9 with ⟨hE9, hk9⟩ | ⟨hE9, hk9⟩
    · subst hk9
      subst hE9
      refine vx_catch hown [] ({ startPc := 0, endPc := 10, handlerPc := 13, catchType := 19 }) [{ startPc := 0, endPc := 10, handlerPc := 17, catchType := 13 }] htab (fun z hz => absurd hz List.not_mem_nil) rfl (by decide) w_1 (va_Nw.use rfl (hE.2.2.1 (.castable xIOB xIOB) (by decide))) hce9 hcv9 hcl9 ?_
      refine lv_astore (lv' := [(4, .ref q9), (0, .ref h), (1, .int rg), (2, .int wh), (3, .ref o)]) hx hb dL_part_13 hl (by decide) rfl (fun ls hl => ?_)
      refine lv_iconst (v := 1) hx hb dL_part_15 (by decide) ?_
      exact W.iret hx hb hr (fun t9 ht hW => ⟨⟨_, 1, rfl, rfl, ⟨0, fo, hq, (fun h => absurd h (by decide)), by rw [ht]; exact hP9, hD⟩⟩, hS9.F ht⟩) hS9.2.2 dL_part_16
    · subst hk9
      subst hE9
      refine vx_catch hown [{ startPc := 0, endPc := 10, handlerPc := 13, catchType := 19 }] ({ startPc := 0, endPc := 10, handlerPc := 17, catchType := 13 }) [] htab (fun z hz => by rw [List.mem_singleton.mp hz]; exact Or.inr ⟨by decide, xIOB, w_1, hE.2.2.2.2.2.2.2.2.1⟩) rfl (by decide) w_2 (va_Nw.use rfl (hE.2.2.1 (.castable xIAE xIAE) (by decide))) hce9 hcv9 hcl9 ?_
      refine lv_astore (lv' := [(4, .ref q9), (0, .ref h), (1, .int rg), (2, .int wh), (3, .ref o)]) hx hb dL_part_17 hl (by decide) rfl (fun ls hl => ?_)
      refine lv_iconst (v := 2) hx hb dL_part_19 (by decide) ?_
      exact W.iret hx hb hr (fun t9 ht hW => ⟨⟨_, 2, rfl, rfl, ⟨0, fo, hq, (fun h => absurd h (by decide)), by rw [ht]; exact hP9, hD⟩⟩, hS9.F ht⟩) hS9.2.2 dL_part_20
  · obtain rfl := hw
    obtain ⟨hq, hP3, hD9⟩ := hB
    rw [ht] at hP3
    have hP : va_P D vwCl (cL h q1 q2 cA cB tf ff cw td an qb pa o cC fo) H := hP3.app (ro_keep (hP.sub [3] rfl) nxo hk1)
    have hD : va_D A (cL h q1 q2 cA cB tf ff cw td an qb pa o cC fo) := cL_D _ _ _ _ hD
    refine lv_i2l (v := v9.toInt64) hx hb dL_part_8 rfl ?_
    refine va_last hx hb hK hP hD hS 3 2 rfl rfl in_01 dL_part_9 (fun H locs hP hD hS => ?_)
    have hP : va_P D vwCl (cL h q1 q2 cA cB tf ff cw td an qb pa o cC (vp_updL fo (0 : Int32).toNatClampNeg v9.toInt64)) H := hP
    have hD : va_D A (cL h q1 q2 cA cB tf ff cw td an qb pa o cC (vp_updL fo (0 : Int32).toNatClampNeg v9.toInt64)) := hD
    refine lv_goto (tgt := 21) hx hb dL_part_10 (by decide) ?_
    refine lv_iconst (v := 0) hx hb dL_part_21 (by decide) ?_
    exact W.iret hx hb hr (fun t9 ht hW => ⟨⟨_, 0, rfl, rfl, ⟨v9, _, hq, (fun _ => updL_0 _ _), by rw [ht]; exact hP, hD⟩⟩, hS.F ht⟩) hS.2.2 dL_part_22
theorem kS_L_turn : yL_turn.cls ≠ "java/lang/invoke/MethodHandle" ∧ yL_turn.cls ≠ "java/lang/invoke/VarHandle" ∧ (parseMethodDescriptor yL_turn.desc).map (fun d => d.parameters.length) = some 3 := by decide +kernel
set_option maxHeartbeats 4000000 in
set_option maxRecDepth 100000 in
theorem c_L_turn (l : Launch) (hl9 : l.stackTraces = false) (D : va_G) (ad : Nat → Nat) (h : Nat) (q1 : Nat) (q2 : Nat) (cA : ClassId) (cB : ClassId) (tf : Nat → Int32) (ff : Nat → Int64) (cw : Int32) (td : Int32) (an : Bool) (qb : Int32) (pa : Bool) (rg : Int32) (aw : Bool) (sz : Nat) : Met l yL_turn wsL_turn ({ frames := 8, cells := 1, slots := 6, locals := 132 } : Room) (va_Pc [.ref h, .int rg, .int (bI aw)] (TXB (MRB D ad h q1 q2 (tRS cA cB) (cRS h q1 q2 cA cB tf ff cw td an qb pa) [] sz))) (va_Qi (fun (r u : Int32) => r = u) (fun u t => ∃ (w_tf : Nat → Int32), R_turn tf rg aw = (u, w_tf) ∧ va_P D vwCl (cRS h q1 q2 cA cB w_tf ff cw td an qb pa) t.heap ∧ va_D (va_A (cRS h q1 q2 cA cB tf ff cw td an qb pa) sz) (cRS h q1 q2 cA cB w_tf ff cw td an qb pa)) (va_A (cRS h q1 q2 cA cB tf ff cw td an qb pa) sz)) 1 6 (va_A (cRS h q1 q2 cA cB tf ff cw td an qb pa) sz) := by
  refine va_MetW (cc := cL_turn) (maxL := 4) (ret := some .int) (hh := [(0, 6, 9, 19)]) (by decide) rfl ?_
  intro p e s m args below meth c s₁ B hml hv
  have htab := vx_table (x := yL_turn) B (atoms_spec (ws := wsL_turn) B.pre _ List.mem_cons_self)
  obtain ⟨rfl, ⟨hsz, hP, hK, hD0, hR0, hRp, hE⟩, hDW⟩ := hv
  have hx := B.exec
  have hb := B.bytes
  have hr := B.returns
  have hts := atoms_spec (ws := wsL_turn) B.pre
  have hown : s.vm.findClass RL = some m.cls := findClass_of_methodNamed B.named
  have w_1 := hts (.classLink RL 19 xIOB) (by decide +kernel)
  subst hsz
  have hD := hD0.self (sz := s.heap.size)
  generalize hAe : va_A (cRS h q1 q2 cA cB tf ff cw td an qb pa) s.heap.size = A at hD hE ⊢
  have hA : ∀ q : Nat, s.heap.size ≤ q → A q := fun q h => by rw [← hAe]; exact Or.inr h
  have hS : va_S A s.heap s.heap [] := va_S.rf
  have hP : va_P D vwCl (cRS h q1 q2 cA cB tf ff cw td an qb pa) s.heap := hP
  have hl := lv_entry ([.ref h, .int rg, .int (bI aw)]) (n := 4) (Nat.le_of_ble_eq_true rfl)
  rw [lg_entry_eq]
  generalize (lg_sl ([.ref h, .int rg, .int (bI aw)]) ++ List.replicate (4 - (lg_sl ([.ref h, .int rg, .int (bI aw)])).length) Slot.unset).toArray = ls at hl ⊢
  have hl : lv_has ls 4 [(0, .ref h), (1, .int rg), (2, .int (bI aw))] := hl
  refine lv_aload_n hx hb dL_turn_0 rfl (lv_at hl 0 rfl) ?_
  refine lv_iload_n hx hb dL_turn_1 rfl (lv_at hl 1 rfl) ?_
  refine lv_iload_n hx hb dL_turn_2 rfl (lv_at hl 2 rfl) ?_
  have hK3 := hK
  have hP3 := hP
  have hD3 := hD
  have hFc := va_free (wc := cRS h q1 q2 cA cB tf ff cw td an qb pa) hD hS hA [0, 1, 2] rfl
  refine vx_callv (vx_runV (As := [.int rg, .int (bI aw)]) (rest := []) ⟨hx, hb, hml, hown, hts⟩ (c_X2_turn l hl9 D ad h q1 q2 cA cB tf ff cw td an qb pa rg aw s.heap.size) (cwV 2 hts gL_turn_X2_turn rfl rfl rfl kV_X2_turn ⟨Nat.le_of_ble_eq_true rfl, Nat.le_of_ble_eq_true rfl⟩) ⟨TXB.blind MRB.blind, va_recv hK3 hP3 (ci := 1) (q0 := 0) rfl rfl, TXB.pre (MRB.pre hK3 hP3 hD3 vP_nil ap_nil hE hS hFc) hDW⟩ rfl rfl hl.1 rfl (lv_room (Nat.le_of_ble_eq_true rfl)) dL_turn_3 ⟨Nat.le_of_ble_eq_true rfl, Nat.le_of_ble_eq_true rfl⟩) hS (fun q _ h9 => hFc q h9) hFc (fun q _ h9 => hFc q h9) (fun E9 ce9 q9 u9 t9 H9 locs9 ht hvm hw hB hz1 hk1 hS9 hce9 hcv9 hcl9 => ?_) (fun u9 t9 H locs ht hvm hw hB hz1 hk1 hS => ?_)
  · obtain ⟨k9, hq, hc9, hP3⟩ := hB
    rw [ht] at hP3
    have hP9 := hP3
    have htab : c.exceptionTable.toList = [{ startPc := 0, endPc := 6, handlerPc := 9, catchType := 19 }] := htab
    obtain ⟨hE9, hk9⟩ := hc9
    subst hk9
    subst hE9
    refine vx_catch hown [] ({ startPc := 0, endPc := 6, handlerPc := 9, catchType := 19 }) [] htab (fun z hz => absurd hz List.not_mem_nil) rfl (by decide) w_1 (va_Nw.use rfl (hE.2.2.1 (.castable xIOB xIOB) (by decide))) hce9 hcv9 hcl9 ?_
    refine lv_astore_n (lv' := [(3, .ref q9), (0, .ref h), (1, .int rg), (2, .int (bI aw))]) hx hb dL_turn_9 rfl hl (by decide) rfl (fun ls hl => ?_)
    refine lv_iconst (v := 1) hx hb dL_turn_10 (by decide) ?_
    exact W.iret hx hb hr (fun t9 ht hW => ⟨⟨_, 1, rfl, rfl, ⟨tf, hq, by rw [ht]; exact hP9, hD⟩⟩, hS9.F ht⟩) hS9.2.2 dL_turn_11
  · obtain ⟨o_tf, hq, hP3, hD9⟩ := hB
    rw [ht] at hP3
    have hP := hP3
    have hD : va_D A (cRS h q1 q2 cA cB o_tf ff cw td an qb pa) := hD9.weaken (fun _ _ _ h => hFc _ h)
    refine lv_goto (tgt := 12) hx hb dL_turn_6 (by decide) ?_
    refine lv_iconst (v := 0) hx hb dL_turn_12 (by decide) ?_
    exact W.iret hx hb hr (fun t9 ht hW => ⟨⟨_, 0, rfl, rfl, ⟨o_tf, hq, by rw [ht]; exact hP, hD⟩⟩, hS.F ht⟩) hS.2.2 dL_turn_13
theorem kS_L_constant : yL_constant.cls ≠ "java/lang/invoke/MethodHandle" ∧ yL_constant.cls ≠ "java/lang/invoke/VarHandle" ∧ (parseMethodDescriptor yL_constant.desc).map (fun d => d.parameters.length) = some 3 := by decide +kernel
set_option maxHeartbeats 4000000 in
set_option maxRecDepth 100000 in
theorem c_L_constant (l : Launch) (hl9 : l.stackTraces = false) (D : va_G) (ad : Nat → Nat) (h : Nat) (q1 : Nat) (q2 : Nat) (cA : ClassId) (cB : ClassId) (tf : Nat → Int32) (ff : Nat → Int64) (cw : Int32) (td : Int32) (an : Bool) (qb : Int32) (pa : Bool) (wh : Int32) (rg : Int32) (sz : Nat) : Met l yL_constant wsL_constant ({ frames := 8, cells := 2, slots := 12, locals := 132 } : Room) (va_Pc [.ref h, .int wh, .int rg] (TXB (MRB D ad h q1 q2 (tRS cA cB) (cRS h q1 q2 cA cB tf ff cw td an qb pa) [] sz))) (va_Qi (fun (r u : Int32) => r = u) (fun u t => ∃ (w_tf : Nat → Int32) (w_ff : Nat → Int64), R_constant tf ff wh rg = (u, w_tf, w_ff) ∧ va_P D vwCl (cRS h q1 q2 cA cB w_tf w_ff cw td an qb pa) t.heap ∧ va_D (va_A (cRS h q1 q2 cA cB tf ff cw td an qb pa) sz) (cRS h q1 q2 cA cB w_tf w_ff cw td an qb pa)) (va_A (cRS h q1 q2 cA cB tf ff cw td an qb pa) sz)) 2 12 (va_A (cRS h q1 q2 cA cB tf ff cw td an qb pa) sz) := by
  refine va_MetW (cc := cL_constant) (maxL := 4) (ret := some .int) (hh := [(0, 6, 9, 19), (0, 6, 12, 13)]) (by decide) rfl ?_
  intro p e s m args below meth c s₁ B hml hv
  have htab := vx_table (x := yL_constant) B (atoms_spec (ws := wsL_constant) B.pre _ List.mem_cons_self)
  obtain ⟨rfl, ⟨hsz, hP, hK, hD0, hR0, hRp, hE⟩, hDW⟩ := hv
  have hx := B.exec
  have hb := B.bytes
  have hr := B.returns
  have hts := atoms_spec (ws := wsL_constant) B.pre
  have hown : s.vm.findClass RL = some m.cls := findClass_of_methodNamed B.named
  have w_1 := hts (.classLink RL 19 xIOB) (by decide +kernel)
  have w_2 := hts (.classLink RL 13 xIAE) (by decide +kernel)
  subst hsz
  have hD := hD0.self (sz := s.heap.size)
  generalize hAe : va_A (cRS h q1 q2 cA cB tf ff cw td an qb pa) s.heap.size = A at hD hE ⊢
  have hA : ∀ q : Nat, s.heap.size ≤ q → A q := fun q h => by rw [← hAe]; exact Or.inr h
  have hS : va_S A s.heap s.heap [] := va_S.rf
  have hP : va_P D vwCl (cRS h q1 q2 cA cB tf ff cw td an qb pa) s.heap := hP
  have hl := lv_entry ([.ref h, .int wh, .int rg]) (n := 4) (Nat.le_of_ble_eq_true rfl)
  rw [lg_entry_eq]
  generalize (lg_sl ([.ref h, .int wh, .int rg]) ++ List.replicate (4 - (lg_sl ([.ref h, .int wh, .int rg])).length) Slot.unset).toArray = ls at hl ⊢
  have hl : lv_has ls 4 [(0, .ref h), (1, .int wh), (2, .int rg)] := hl
  refine lv_aload_n hx hb dL_constant_0 rfl (lv_at hl 0 rfl) ?_
  refine lv_iload_n hx hb dL_constant_1 rfl (lv_at hl 1 rfl) ?_
  refine lv_iload_n hx hb dL_constant_2 rfl (lv_at hl 2 rfl) ?_
  have hK3 := hK
  have hP3 := hP
  have hD3 := hD
  have hFc := va_free (wc := cRS h q1 q2 cA cB tf ff cw td an qb pa) hD hS hA [0, 1, 2] rfl
  refine vx_callv (vx_runV (As := [.int wh, .int rg]) (rest := []) ⟨hx, hb, hml, hown, hts⟩ (c_X2_constant l hl9 D ad h q1 q2 cA cB tf ff cw td an qb pa wh rg s.heap.size) (cwV 2 hts gL_constant_X2_constant rfl rfl rfl kV_X2_constant ⟨Nat.le_of_ble_eq_true rfl, Nat.le_of_ble_eq_true rfl⟩) ⟨TXB.blind MRB.blind, va_recv hK3 hP3 (ci := 1) (q0 := 0) rfl rfl, TXB.pre (MRB.pre hK3 hP3 hD3 vP_nil ap_nil hE hS hFc) hDW⟩ rfl rfl hl.1 rfl (lv_room (Nat.le_of_ble_eq_true rfl)) dL_constant_3 ⟨Nat.le_of_ble_eq_true rfl, Nat.le_of_ble_eq_true rfl⟩) hS (fun q _ h9 => hFc q h9) hFc (fun q _ h9 => hFc q h9) (fun E9 ce9 q9 u9 t9 H9 locs9 ht hvm hw hB hz1 hk1 hS9 hce9 hcv9 hcl9 => ?_) (fun u9 t9 H locs ht hvm hw hB hz1 hk1 hS => ?_)
  · obtain ⟨k9, hq, hc9, hP3⟩ := hB
    rw [ht] at hP3
    have hP9 := hP3
    have htab : c.exceptionTable.toList = [{ startPc := 0, endPc := 6, handlerPc := 9, catchType := 19 }, { startPc := 0, endPc := 6, handlerPc := 12, catchType := 13 }] := htab
    rcases hc9 with ⟨hE9, hk9⟩ | ⟨hE9, hk9⟩
    · subst hk9
      subst hE9
      refine vx_catch hown [] ({ startPc := 0, endPc := 6, handlerPc := 9, catchType := 19 }) [{ startPc := 0, endPc := 6, handlerPc := 12, catchType := 13 }] htab (fun z hz => absurd hz List.not_mem_nil) rfl (by decide) w_1 (va_Nw.use rfl (hE.2.2.1 (.castable xIOB xIOB) (by decide))) hce9 hcv9 hcl9 ?_
      refine lv_astore_n (lv' := [(3, .ref q9), (0, .ref h), (1, .int wh), (2, .int rg)]) hx hb dL_constant_9 rfl hl (by decide) rfl (fun ls hl => ?_)
      refine lv_iconst (v := 1) hx hb dL_constant_10 (by decide) ?_
      exact W.iret hx hb hr (fun t9 ht hW => ⟨⟨_, 1, rfl, rfl, ⟨tf, ff, hq, by rw [ht]; exact hP9, hD⟩⟩, hS9.F ht⟩) hS9.2.2 dL_constant_11
    · subst hk9
      subst hE9
      refine vx_catch hown [{ startPc := 0, endPc := 6, handlerPc := 9, catchType := 19 }] ({ startPc := 0, endPc := 6, handlerPc := 12, catchType := 13 }) [] htab (fun z hz => by rw [List.mem_singleton.mp hz]; exact Or.inr ⟨by decide, xIOB, w_1, hE.2.2.2.2.2.2.2.2.1⟩) rfl (by decide) w_2 (va_Nw.use rfl (hE.2.2.1 (.castable xIAE xIAE) (by decide))) hce9 hcv9 hcl9 ?_
      refine lv_astore_n (lv' := [(3, .ref q9), (0, .ref h), (1, .int wh), (2, .int rg)]) hx hb dL_constant_12 rfl hl (by decide) rfl (fun ls hl => ?_)
      refine lv_iconst (v := 2) hx hb dL_constant_13 (by decide) ?_
      exact W.iret hx hb hr (fun t9 ht hW => ⟨⟨_, 2, rfl, rfl, ⟨tf, ff, hq, by rw [ht]; exact hP9, hD⟩⟩, hS9.F ht⟩) hS9.2.2 dL_constant_14
  · obtain ⟨o_tf, o_ff, hq, hP3, hD9⟩ := hB
    rw [ht] at hP3
    have hP := hP3
    have hD : va_D A (cRS h q1 q2 cA cB o_tf o_ff cw td an qb pa) := hD9.weaken (fun _ _ _ h => hFc _ h)
    refine lv_goto (tgt := 15) hx hb dL_constant_6 (by decide) ?_
    refine lv_iconst (v := 0) hx hb dL_constant_15 (by decide) ?_
    exact W.iret hx hb hr (fun t9 ht hW => ⟨⟨_, 0, rfl, rfl, ⟨o_tf, o_ff, hq, by rw [ht]; exact hP, hD⟩⟩, hS.F ht⟩) hS.2.2 dL_constant_16
theorem kS_L_whole : yL_whole.cls ≠ "java/lang/invoke/MethodHandle" ∧ yL_whole.cls ≠ "java/lang/invoke/VarHandle" ∧ (parseMethodDescriptor yL_whole.desc).map (fun d => d.parameters.length) = some 4 := by decide +kernel
set_option maxHeartbeats 4000000 in
set_option maxRecDepth 100000 in
theorem c_L_whole (l : Launch) (hl9 : l.stackTraces = false) (D : va_G) (ad : Nat → Nat) (h : Nat) (q1 : Nat) (q2 : Nat) (cA : ClassId) (cB : ClassId) (tf : Nat → Int32) (ff : Nat → Int64) (cw : Int32) (td : Int32) (an : Bool) (qb : Int32) (pa : Bool) (o : Nat) (cC : ClassId) (fo : Nat → Int64) (ra : Int32) (rc : Int32) (sz : Nat) : Met l yL_whole wsL_whole ({ frames := 9, cells := 4, slots := 16, locals := 229 } : Room) (va_Pc [.ref h, .int ra, .int rc, .ref o] (TXB (MRB D ad h q1 q2 (tL cA cB cC) (cL h q1 q2 cA cB tf ff cw td an qb pa o cC fo) [] sz))) (va_Qi (fun (r u : Int32) => r = u) (fun u t => ∃ (v : Int32) (w_tf : Nat → Int32) (w_ff : Nat → Int64) (w_td : Int32) (w_an : Bool) (w_fo : Nat → Int64), R_whole tf ff cw td an ra rc = (v, u, w_tf, w_ff, w_td, w_an) ∧ (u = 0 → w_fo 0 = v.toInt64) ∧ va_P D vwCl (cL h q1 q2 cA cB w_tf w_ff cw w_td w_an qb pa o cC w_fo) t.heap ∧ va_D (va_A (cL h q1 q2 cA cB tf ff cw td an qb pa o cC fo) sz) (cL h q1 q2 cA cB w_tf w_ff cw w_td w_an qb pa o cC w_fo)) (va_A (cL h q1 q2 cA cB tf ff cw td an qb pa o cC fo) sz)) 4 16 (va_A (cL h q1 q2 cA cB tf ff cw td an qb pa o cC fo) sz) := by
  refine va_MetW (cc := cL_whole) (maxL := 5) (ret := some .int) (hh := [(0, 10, 13, 19)]) (by decide) rfl ?_
  intro p e s m args below meth c s₁ B hml hv
  have htab := vx_table (x := yL_whole) B (atoms_spec (ws := wsL_whole) B.pre _ List.mem_cons_self)
  obtain ⟨rfl, ⟨hsz, hP, hK, hD0, hR0, hRp, hE⟩, hDW⟩ := hv
  have hx := B.exec
  have hb := B.bytes
  have hr := B.returns
  have hts := atoms_spec (ws := wsL_whole) B.pre
  have hown : s.vm.findClass RL = some m.cls := findClass_of_methodNamed B.named
  have w_1 := hts (.classLink RL 19 xIOB) (by decide +kernel)
  subst hsz
  have hD := hD0.self (sz := s.heap.size)
  generalize hAe : va_A (cL h q1 q2 cA cB tf ff cw td an qb pa o cC fo) s.heap.size = A at hD hE ⊢
  have hA : ∀ q : Nat, s.heap.size ≤ q → A q := fun q h => by rw [← hAe]; exact Or.inr h
  have hS : va_S A s.heap s.heap [] := va_S.rf
  have hP : va_P D vwCl (cL h q1 q2 cA cB tf ff cw td an qb pa o cC fo) s.heap := hP
  have nxo : ap3 o h q1 q2 := ap_D hD
  have hl := lv_entry ([.ref h, .int ra, .int rc, .ref o]) (n := 5) (Nat.le_of_ble_eq_true rfl)
  rw [lg_entry_eq]
  generalize (lg_sl ([.ref h, .int ra, .int rc, .ref o]) ++ List.replicate (5 - (lg_sl ([.ref h, .int ra, .int rc, .ref o])).length) Slot.unset).toArray = ls at hl ⊢
  have hl : lv_has ls 5 [(0, .ref h), (1, .int ra), (2, .int rc), (3, .ref o)] := hl
  refine lv_aload_n hx hb dL_whole_0 rfl (lv_at hl 3 rfl) ?_
  refine lv_iconst (v := 0) hx hb dL_whole_1 (by decide) ?_
  refine lv_aload_n hx hb dL_whole_2 rfl (lv_at hl 0 rfl) ?_
  refine lv_iload_n hx hb dL_whole_3 rfl (lv_at hl 1 rfl) ?_
  refine lv_iload_n hx hb dL_whole_4 rfl (lv_at hl 2 rfl) ?_
  have hK3 : va_K D vwCl (tRS cA cB) s := hK.sub [0, 1] rfl
  have hP3 : va_P D vwCl (cRS h q1 q2 cA cB tf ff cw td an qb pa) s.heap := hP.sub [0, 1, 2] rfl
  have hD3 : va_D A (cRS h q1 q2 cA cB tf ff cw td an qb pa) := hD.sub [0, 1, 2] (by decide) rfl
  have hFc := va_free (wc := cRS h q1 q2 cA cB tf ff cw td an qb pa) hD hS hA [0, 1, 2] rfl
  refine vx_calli (vx_runV (As := [.int ra, .int rc]) (rest := [.int 0, .ref o]) ⟨hx, hb, hml, hown, hts⟩ (c_X2_whole l hl9 D ad h q1 q2 cA cB tf ff cw td an qb pa ra rc s.heap.size) (cwV 2 hts gL_whole_X2_whole rfl rfl rfl kV_X2_whole ⟨Nat.le_of_ble_eq_true rfl, Nat.le_of_ble_eq_true rfl⟩) ⟨TXB.blind MRB.blind, va_recv hK3 hP3 (ci := 1) (q0 := 0) rfl rfl, TXB.pre (MRB.pre hK3 hP3 hD3 vP_nil ap_nil hE hS hFc) hDW⟩ rfl rfl hl.1 rfl (lv_room (Nat.le_of_ble_eq_true rfl)) dL_whole_5 ⟨Nat.le_of_ble_eq_true rfl, Nat.le_of_ble_eq_true rfl⟩) hS (fun q _ h9 => hFc q h9) hFc (fun q _ h9 => hFc q h9) (fun E9 ce9 q9 u9 t9 H9 locs9 ht hvm hw hB hz1 hk1 hS9 hce9 hcv9 hcl9 => ?_) (fun v9 u9 t9 H locs ht hvm hw hB hz1 hk1 hS => ?_)
  · obtain ⟨k9, hq, hc9, hP3⟩ := hB
    rw [ht] at hP3
    have hP9 : va_P D vwCl (cL h q1 q2 cA cB tf ff cw td an qb pa o cC fo) H9 := hP3.app (ro_keep (hP.sub [3] rfl) nxo hk1)
    have htab : c.exceptionTable.toList = [{ startPc := 0, endPc := 10, handlerPc := 13, catchType := 19 }] := htab
    obtain ⟨hE9, hk9⟩ := hc9
    subst hk9
    subst hE9
    refine vx_catch hown [] ({ startPc := 0, endPc := 10, handlerPc := 13, catchType := 19 }) [] htab (fun z hz => absurd hz List.not_mem_nil) rfl (by decide) w_1 (va_Nw.use rfl (hE.2.2.1 (.castable xIOB xIOB) (by decide))) hce9 hcv9 hcl9 ?_
    refine lv_astore (lv' := [(4, .ref q9), (0, .ref h), (1, .int ra), (2, .int rc), (3, .ref o)]) hx hb dL_whole_13 hl (by decide) rfl (fun ls hl => ?_)
    refine lv_iconst (v := 1) hx hb dL_whole_15 (by decide) ?_
    exact W.iret hx hb hr (fun t9 ht hW => ⟨⟨_, 1, rfl, rfl, ⟨0, tf, ff, td, an, fo, hq, (fun h => absurd h (by decide)), by rw [ht]; exact hP9, hD⟩⟩, hS9.F ht⟩) hS9.2.2 dL_whole_16
  · obtain rfl := hw
    obtain ⟨o_tf, o_ff, o_td, o_an, hq, hP3, hD9⟩ := hB
    rw [ht] at hP3
    have hP : va_P D vwCl (cL h q1 q2 cA cB o_tf o_ff cw o_td o_an qb pa o cC fo) H := hP3.app (ro_keep (hP.sub [3] rfl) nxo hk1)
    have hD : va_D A (cL h q1 q2 cA cB o_tf o_ff cw o_td o_an qb pa o cC fo) := cL_D _ _ _ _ hD
    refine lv_i2l (v := v9.toInt64) hx hb dL_whole_8 rfl ?_
    refine va_last hx hb hK hP hD hS 3 2 rfl rfl in_01 dL_whole_9 (fun H locs hP hD hS => ?_)
    have hP : va_P D vwCl (cL h q1 q2 cA cB o_tf o_ff cw o_td o_an qb pa o cC (vp_updL fo (0 : Int32).toNatClampNeg v9.toInt64)) H := hP
    have hD : va_D A (cL h q1 q2 cA cB o_tf o_ff cw o_td o_an qb pa o cC (vp_updL fo (0 : Int32).toNatClampNeg v9.toInt64)) := hD
    refine lv_goto (tgt := 17) hx hb dL_whole_10 (by decide) ?_
    refine lv_iconst (v := 0) hx hb dL_whole_17 (by decide) ?_
    exact W.iret hx hb hr (fun t9 ht hW => ⟨⟨_, 0, rfl, rfl, ⟨v9, o_tf, o_ff, o_td, o_an, _, hq, (fun _ => updL_0 _ _), by rw [ht]; exact hP, hD⟩⟩, hS.F ht⟩) hS.2.2 dL_whole_18
theorem kS_L_scale : yL_scale.cls ≠ "java/lang/invoke/MethodHandle" ∧ yL_scale.cls ≠ "java/lang/invoke/VarHandle" ∧ (parseMethodDescriptor yL_scale.desc).map (fun d => d.parameters.length) = some 5 := by decide +kernel
set_option maxHeartbeats 4000000 in
set_option maxRecDepth 100000 in
theorem c_L_scale (l : Launch) (hl9 : l.stackTraces = false) (D : va_G) (ad : Nat → Nat) (h : Nat) (q1 : Nat) (q2 : Nat) (cA : ClassId) (cB : ClassId) (tf : Nat → Int32) (ff : Nat → Int64) (cw : Int32) (td : Int32) (an : Bool) (qb : Int32) (pa : Bool) (o : Nat) (cC : ClassId) (fo : Nat → Int64) (ra : Int32) (rb : Int32) (rc : Int32) (sz : Nat) : Met l yL_scale wsL_scale ({ frames := 9, cells := 6, slots := 24, locals := 228 } : Room) (va_Pc [.ref h, .int ra, .int rb, .int rc, .ref o] (TXB (MRB D ad h q1 q2 (tL cA cB cC) (cL h q1 q2 cA cB tf ff cw td an qb pa o cC fo) [] sz))) (va_Qi (fun (r u : Int32) => r = u) (fun u t => ∃ (v : Int32) (w_tf : Nat → Int32) (w_ff : Nat → Int64) (w_td : Int32) (w_an : Bool) (w_fo : Nat → Int64), R_scale tf ff cw td an ra rb rc = (v, u, w_tf, w_ff, w_td, w_an) ∧ (u = 0 → w_fo 0 = v.toInt64) ∧ va_P D vwCl (cL h q1 q2 cA cB w_tf w_ff cw w_td w_an qb pa o cC w_fo) t.heap ∧ va_D (va_A (cL h q1 q2 cA cB tf ff cw td an qb pa o cC fo) sz) (cL h q1 q2 cA cB w_tf w_ff cw w_td w_an qb pa o cC w_fo)) (va_A (cL h q1 q2 cA cB tf ff cw td an qb pa o cC fo) sz)) 6 24 (va_A (cL h q1 q2 cA cB tf ff cw td an qb pa o cC fo) sz) := by
  refine va_MetW (cc := cL_scale) (maxL := 6) (ret := some .int) (hh := [(0, 12, 15, 19)]) (by decide) rfl ?_
  intro p e s m args below meth c s₁ B hml hv
  have htab := vx_table (x := yL_scale) B (atoms_spec (ws := wsL_scale) B.pre _ List.mem_cons_self)
  obtain ⟨rfl, ⟨hsz, hP, hK, hD0, hR0, hRp, hE⟩, hDW⟩ := hv
  have hx := B.exec
  have hb := B.bytes
  have hr := B.returns
  have hts := atoms_spec (ws := wsL_scale) B.pre
  have hown : s.vm.findClass RL = some m.cls := findClass_of_methodNamed B.named
  have w_1 := hts (.classLink RL 19 xIOB) (by decide +kernel)
  subst hsz
  have hD := hD0.self (sz := s.heap.size)
  generalize hAe : va_A (cL h q1 q2 cA cB tf ff cw td an qb pa o cC fo) s.heap.size = A at hD hE ⊢
  have hA : ∀ q : Nat, s.heap.size ≤ q → A q := fun q h => by rw [← hAe]; exact Or.inr h
  have hS : va_S A s.heap s.heap [] := va_S.rf
  have hP : va_P D vwCl (cL h q1 q2 cA cB tf ff cw td an qb pa o cC fo) s.heap := hP
  have nxo : ap3 o h q1 q2 := ap_D hD
  have hl := lv_entry ([.ref h, .int ra, .int rb, .int rc, .ref o]) (n := 6) (Nat.le_of_ble_eq_true rfl)
  rw [lg_entry_eq]
  generalize (lg_sl ([.ref h, .int ra, .int rb, .int rc, .ref o]) ++ List.replicate (6 - (lg_sl ([.ref h, .int ra, .int rb, .int rc, .ref o])).length) Slot.unset).toArray = ls at hl ⊢
  have hl : lv_has ls 6 [(0, .ref h), (1, .int ra), (2, .int rb), (3, .int rc), (4, .ref o)] := hl
  refine lv_aload hx hb dL_scale_0 (lv_at hl 4 rfl) ?_
  refine lv_iconst (v := 0) hx hb dL_scale_2 (by decide) ?_
  refine lv_aload_n hx hb dL_scale_3 rfl (lv_at hl 0 rfl) ?_
  refine lv_iload_n hx hb dL_scale_4 rfl (lv_at hl 1 rfl) ?_
  refine lv_iload_n hx hb dL_scale_5 rfl (lv_at hl 2 rfl) ?_
  refine lv_iload_n hx hb dL_scale_6 rfl (lv_at hl 3 rfl) ?_
  have hK3 : va_K D vwCl (tRS cA cB) s := hK.sub [0, 1] rfl
  have hP3 : va_P D vwCl (cRS h q1 q2 cA cB tf ff cw td an qb pa) s.heap := hP.sub [0, 1, 2] rfl
  have hD3 : va_D A (cRS h q1 q2 cA cB tf ff cw td an qb pa) := hD.sub [0, 1, 2] (by decide) rfl
  have hFc := va_free (wc := cRS h q1 q2 cA cB tf ff cw td an qb pa) hD hS hA [0, 1, 2] rfl
  refine vx_calli (vx_runV (As := [.int ra, .int rb, .int rc]) (rest := [.int 0, .ref o]) ⟨hx, hb, hml, hown, hts⟩ (c_X2_scale l hl9 D ad h q1 q2 cA cB tf ff cw td an qb pa ra rb rc s.heap.size) (cwV 3 hts gL_scale_X2_scale rfl rfl rfl kV_X2_scale ⟨Nat.le_of_ble_eq_true rfl, Nat.le_of_ble_eq_true rfl⟩) ⟨TXB.blind MRB.blind, va_recv hK3 hP3 (ci := 1) (q0 := 0) rfl rfl, TXB.pre (MRB.pre hK3 hP3 hD3 vP_nil ap_nil hE hS hFc) hDW⟩ rfl rfl hl.1 rfl (lv_room (Nat.le_of_ble_eq_true rfl)) dL_scale_7 ⟨Nat.le_of_ble_eq_true rfl, Nat.le_of_ble_eq_true rfl⟩) hS (fun q _ h9 => hFc q h9) hFc (fun q _ h9 => hFc q h9) (fun E9 ce9 q9 u9 t9 H9 locs9 ht hvm hw hB hz1 hk1 hS9 hce9 hcv9 hcl9 => ?_) (fun v9 u9 t9 H locs ht hvm hw hB hz1 hk1 hS => ?_)
  · obtain ⟨k9, hq, hc9, hP3⟩ := hB
    rw [ht] at hP3
    have hP9 : va_P D vwCl (cL h q1 q2 cA cB tf ff cw td an qb pa o cC fo) H9 := hP3.app (ro_keep (hP.sub [3] rfl) nxo hk1)
    have htab : c.exceptionTable.toList = [{ startPc := 0, endPc := 12, handlerPc := 15, catchType := 19 }] := htab
    obtain ⟨hE9, hk9⟩ := hc9
    subst hk9
    subst hE9
    refine vx_catch hown [] ({ startPc := 0, endPc := 12, handlerPc := 15, catchType := 19 }) [] htab (fun z hz => absurd hz List.not_mem_nil) rfl (by decide) w_1 (va_Nw.use rfl (hE.2.2.1 (.castable xIOB xIOB) (by decide))) hce9 hcv9 hcl9 ?_
    refine lv_astore (lv' := [(5, .ref q9), (0, .ref h), (1, .int ra), (2, .int rb), (3, .int rc), (4, .ref o)]) hx hb dL_scale_15 hl (by decide) rfl (fun ls hl => ?_)
    refine lv_iconst (v := 1) hx hb dL_scale_17 (by decide) ?_
    exact W.iret hx hb hr (fun t9 ht hW => ⟨⟨_, 1, rfl, rfl, ⟨0, tf, ff, td, an, fo, hq, (fun h => absurd h (by decide)), by rw [ht]; exact hP9, hD⟩⟩, hS9.F ht⟩) hS9.2.2 dL_scale_18
  · obtain rfl := hw
    obtain ⟨o_tf, o_ff, o_td, o_an, hq, hP3, hD9⟩ := hB
    rw [ht] at hP3
    have hP : va_P D vwCl (cL h q1 q2 cA cB o_tf o_ff cw o_td o_an qb pa o cC fo) H := hP3.app (ro_keep (hP.sub [3] rfl) nxo hk1)
    have hD : va_D A (cL h q1 q2 cA cB o_tf o_ff cw o_td o_an qb pa o cC fo) := cL_D _ _ _ _ hD
    refine lv_i2l (v := v9.toInt64) hx hb dL_scale_10 rfl ?_
    refine va_last hx hb hK hP hD hS 3 2 rfl rfl in_01 dL_scale_11 (fun H locs hP hD hS => ?_)
    have hP : va_P D vwCl (cL h q1 q2 cA cB o_tf o_ff cw o_td o_an qb pa o cC (vp_updL fo (0 : Int32).toNatClampNeg v9.toInt64)) H := hP
    have hD : va_D A (cL h q1 q2 cA cB o_tf o_ff cw o_td o_an qb pa o cC (vp_updL fo (0 : Int32).toNatClampNeg v9.toInt64)) := hD
    refine lv_goto (tgt := 19) hx hb dL_scale_12 (by decide) ?_
    refine lv_iconst (v := 0) hx hb dL_scale_19 (by decide) ?_
    exact W.iret hx hb hr (fun t9 ht hW => ⟨⟨_, 0, rfl, rfl, ⟨v9, o_tf, o_ff, o_td, o_an, _, hq, (fun _ => updL_0 _ _), by rw [ht]; exact hP, hD⟩⟩, hS.F ht⟩) hS.2.2 dL_scale_20
theorem kS_L_extract : yL_extract.cls ≠ "java/lang/invoke/MethodHandle" ∧ yL_extract.cls ≠ "java/lang/invoke/VarHandle" ∧ (parseMethodDescriptor yL_extract.desc).map (fun d => d.parameters.length) = some 5 := by decide +kernel
set_option maxHeartbeats 4000000 in
set_option maxRecDepth 100000 in
theorem c_L_extract (l : Launch) (hl9 : l.stackTraces = false) (D : va_G) (ad : Nat → Nat) (h : Nat) (q1 : Nat) (q2 : Nat) (cA : ClassId) (cB : ClassId) (tf : Nat → Int32) (ff : Nat → Int64) (cw : Int32) (td : Int32) (an : Bool) (qb : Int32) (pa : Bool) (o : Nat) (cC : ClassId) (fo : Nat → Int64) (ra : Int32) (rp : Int32) (rc : Int32) (sz : Nat) : Met l yL_extract wsL_extract ({ frames := 9, cells := 6, slots := 24, locals := 227 } : Room) (va_Pc [.ref h, .int ra, .int rp, .int rc, .ref o] (TXB (MRB D ad h q1 q2 (tL cA cB cC) (cL h q1 q2 cA cB tf ff cw td an qb pa o cC fo) [] sz))) (va_Qi (fun (r u : Int32) => r = u) (fun u t => ∃ (v : Int32) (w_tf : Nat → Int32) (w_ff : Nat → Int64) (w_td : Int32) (w_an : Bool) (w_fo : Nat → Int64), R_extract tf ff cw td an ra rp rc = (v, u, w_tf, w_ff, w_td, w_an) ∧ (u = 0 → w_fo 0 = v.toInt64) ∧ va_P D vwCl (cL h q1 q2 cA cB w_tf w_ff cw w_td w_an qb pa o cC w_fo) t.heap ∧ va_D (va_A (cL h q1 q2 cA cB tf ff cw td an qb pa o cC fo) sz) (cL h q1 q2 cA cB w_tf w_ff cw w_td w_an qb pa o cC w_fo)) (va_A (cL h q1 q2 cA cB tf ff cw td an qb pa o cC fo) sz)) 6 24 (va_A (cL h q1 q2 cA cB tf ff cw td an qb pa o cC fo) sz) := by
  refine va_MetW (cc := cL_extract) (maxL := 6) (ret := some .int) (hh := [(0, 12, 15, 19), (0, 12, 19, 13)]) (by decide) rfl ?_
  intro p e s m args below meth c s₁ B hml hv
  have htab := vx_table (x := yL_extract) B (atoms_spec (ws := wsL_extract) B.pre _ List.mem_cons_self)
  obtain ⟨rfl, ⟨hsz, hP, hK, hD0, hR0, hRp, hE⟩, hDW⟩ := hv
  have hx := B.exec
  have hb := B.bytes
  have hr := B.returns
  have hts := atoms_spec (ws := wsL_extract) B.pre
  have hown : s.vm.findClass RL = some m.cls := findClass_of_methodNamed B.named
  have w_1 := hts (.classLink RL 19 xIOB) (by decide +kernel)
  have w_2 := hts (.classLink RL 13 xIAE) (by decide +kernel)
  subst hsz
  have hD := hD0.self (sz := s.heap.size)
  generalize hAe : va_A (cL h q1 q2 cA cB tf ff cw td an qb pa o cC fo) s.heap.size = A at hD hE ⊢
  have hA : ∀ q : Nat, s.heap.size ≤ q → A q := fun q h => by rw [← hAe]; exact Or.inr h
  have hS : va_S A s.heap s.heap [] := va_S.rf
  have hP : va_P D vwCl (cL h q1 q2 cA cB tf ff cw td an qb pa o cC fo) s.heap := hP
  have nxo : ap3 o h q1 q2 := ap_D hD
  have hl := lv_entry ([.ref h, .int ra, .int rp, .int rc, .ref o]) (n := 6) (Nat.le_of_ble_eq_true rfl)
  rw [lg_entry_eq]
  generalize (lg_sl ([.ref h, .int ra, .int rp, .int rc, .ref o]) ++ List.replicate (6 - (lg_sl ([.ref h, .int ra, .int rp, .int rc, .ref o])).length) Slot.unset).toArray = ls at hl ⊢
  have hl : lv_has ls 6 [(0, .ref h), (1, .int ra), (2, .int rp), (3, .int rc), (4, .ref o)] := hl
  refine lv_aload hx hb dL_extract_0 (lv_at hl 4 rfl) ?_
  refine lv_iconst (v := 0) hx hb dL_extract_2 (by decide) ?_
  refine lv_aload_n hx hb dL_extract_3 rfl (lv_at hl 0 rfl) ?_
  refine lv_iload_n hx hb dL_extract_4 rfl (lv_at hl 1 rfl) ?_
  refine lv_iload_n hx hb dL_extract_5 rfl (lv_at hl 2 rfl) ?_
  refine lv_iload_n hx hb dL_extract_6 rfl (lv_at hl 3 rfl) ?_
  have hK3 : va_K D vwCl (tRS cA cB) s := hK.sub [0, 1] rfl
  have hP3 : va_P D vwCl (cRS h q1 q2 cA cB tf ff cw td an qb pa) s.heap := hP.sub [0, 1, 2] rfl
  have hD3 : va_D A (cRS h q1 q2 cA cB tf ff cw td an qb pa) := hD.sub [0, 1, 2] (by decide) rfl
  have hFc := va_free (wc := cRS h q1 q2 cA cB tf ff cw td an qb pa) hD hS hA [0, 1, 2] rfl
  refine vx_calli (vx_runV (As := [.int ra, .int rp, .int rc]) (rest := [.int 0, .ref o]) ⟨hx, hb, hml, hown, hts⟩ (c_X2_extract l hl9 D ad h q1 q2 cA cB tf ff cw td an qb pa ra rp rc s.heap.size) (cwV 3 hts gL_extract_X2_extract rfl rfl rfl kV_X2_extract ⟨Nat.le_of_ble_eq_true rfl, Nat.le_of_ble_eq_true rfl⟩) ⟨TXB.blind MRB.blind, va_recv hK3 hP3 (ci := 1) (q0 := 0) rfl rfl, TXB.pre (MRB.pre hK3 hP3 hD3 vP_nil ap_nil hE hS hFc) hDW⟩ rfl rfl hl.1 rfl (lv_room (Nat.le_of_ble_eq_true rfl)) dL_extract_7 ⟨Nat.le_of_ble_eq_true rfl, Nat.le_of_ble_eq_true rfl⟩) hS (fun q _ h9 => hFc q h9) hFc (fun q _ h9 => hFc q h9) (fun E9 ce9 q9 u9 t9 H9 locs9 ht hvm hw hB hz1 hk1 hS9 hce9 hcv9 hcl9 => ?_) (fun v9 u9 t9 H locs ht hvm hw hB hz1 hk1 hS => ?_)
  · obtain ⟨k9, hq, hc9, hP3⟩ := hB
    rw [ht] at hP3
    have hP9 : va_P D vwCl (cL h q1 q2 cA cB tf ff cw td an qb pa o cC fo) H9 := hP3.app (ro_keep (hP.sub [3] rfl) nxo hk1)
    have htab : c.exceptionTable.toList = [{ startPc := 0, endPc := 12, handlerPc := 15, catchType := 19 }, { startPc := 0, endPc := 12, handlerPc := 19, catchType := 13 }] := htab
    rcases hc9 with ⟨hE9, hk9⟩ | ⟨hE9, hk9⟩
    · subst hk9
      subst hE9
      refine vx_catch hown [] ({ startPc := 0, endPc := 12, handlerPc := 15, catchType := 19 }) [{ startPc := 0, endPc := 12, handlerPc := 19, catchType := 13 }] htab (fun z hz => absurd hz List.not_mem_nil) rfl (by decide) w_1 (va_Nw.use rfl (hE.2.2.1 (.castable xIOB xIOB) (by decide))) hce9 hcv9 hcl9 ?_
      refine lv_astore (lv' := [(5, .ref q9), (0, .ref h), (1, .int ra), (2, .int rp), (3, .int rc), (4, .ref o)]) hx hb dL_extract_15 hl (by decide) rfl (fun ls hl => ?_)
      refine lv_iconst (v := 1) hx hb dL_extract_17 (by decide) ?_
      exact W.iret hx hb hr (fun t9 ht hW => ⟨⟨_, 1, rfl, rfl, ⟨0, tf, ff, td, an, fo, hq, (fun h => absurd h (by decide)), by rw [ht]; exact hP9, hD⟩⟩, hS9.F ht⟩) hS9.2.2 dL_extract_18
    · subst hk9
      subst hE9
      refine vx_catch hown [{ startPc := 0, endPc := 12, handlerPc := 15, catchType := 19 }] ({ startPc := 0, endPc := 12, handlerPc := 19, catchType := 13 }) [] htab (fun z hz => by rw [List.mem_singleton.mp hz]; exact Or.inr ⟨by decide, xIOB, w_1, hE.2.2.2.2.2.2.2.2.1⟩) rfl (by decide) w_2 (va_Nw.use rfl (hE.2.2.1 (.castable xIAE xIAE) (by decide))) hce9 hcv9 hcl9 ?_
      refine lv_astore (lv' := [(5, .ref q9), (0, .ref h), (1, .int ra), (2, .int rp), (3, .int rc), (4, .ref o)]) hx hb dL_extract_19 hl (by decide) rfl (fun ls hl => ?_)
      refine lv_iconst (v := 2) hx hb dL_extract_21 (by decide) ?_
      exact W.iret hx hb hr (fun t9 ht hW => ⟨⟨_, 2, rfl, rfl, ⟨0, tf, ff, td, an, fo, hq, (fun h => absurd h (by decide)), by rw [ht]; exact hP9, hD⟩⟩, hS9.F ht⟩) hS9.2.2 dL_extract_22
  · obtain rfl := hw
    obtain ⟨o_tf, o_ff, o_td, o_an, hq, hP3, hD9⟩ := hB
    rw [ht] at hP3
    have hP : va_P D vwCl (cL h q1 q2 cA cB o_tf o_ff cw o_td o_an qb pa o cC fo) H := hP3.app (ro_keep (hP.sub [3] rfl) nxo hk1)
    have hD : va_D A (cL h q1 q2 cA cB o_tf o_ff cw o_td o_an qb pa o cC fo) := cL_D _ _ _ _ hD
    refine lv_i2l (v := v9.toInt64) hx hb dL_extract_10 rfl ?_
    refine va_last hx hb hK hP hD hS 3 2 rfl rfl in_01 dL_extract_11 (fun H locs hP hD hS => ?_)
    have hP : va_P D vwCl (cL h q1 q2 cA cB o_tf o_ff cw o_td o_an qb pa o cC (vp_updL fo (0 : Int32).toNatClampNeg v9.toInt64)) H := hP
    have hD : va_D A (cL h q1 q2 cA cB o_tf o_ff cw o_td o_an qb pa o cC (vp_updL fo (0 : Int32).toNatClampNeg v9.toInt64)) := hD
    refine lv_goto (tgt := 23) hx hb dL_extract_12 (by decide) ?_
    refine lv_iconst (v := 0) hx hb dL_extract_23 (by decide) ?_
    exact W.iret hx hb hr (fun t9 ht hW => ⟨⟨_, 0, rfl, rfl, ⟨v9, o_tf, o_ff, o_td, o_an, _, hq, (fun _ => updL_0 _ _), by rw [ht]; exact hP, hD⟩⟩, hS.F ht⟩) hS.2.2 dL_extract_24
theorem kS_L_remainder : yL_remainder.cls ≠ "java/lang/invoke/MethodHandle" ∧ yL_remainder.cls ≠ "java/lang/invoke/VarHandle" ∧ (parseMethodDescriptor yL_remainder.desc).map (fun d => d.parameters.length) = some 5 := by decide +kernel
set_option maxHeartbeats 4000000 in
set_option maxRecDepth 100000 in
theorem c_L_remainder (l : Launch) (hl9 : l.stackTraces = false) (D : va_G) (ad : Nat → Nat) (h : Nat) (q1 : Nat) (q2 : Nat) (cA : ClassId) (cB : ClassId) (tf : Nat → Int32) (ff : Nat → Int64) (cw : Int32) (td : Int32) (an : Bool) (qb : Int32) (pa : Bool) (o : Nat) (cC : ClassId) (fo : Nat → Int64) (ra : Int32) (rb : Int32) (rc : Int32) (sz : Nat) : Met l yL_remainder wsL_remainder ({ frames := 9, cells := 6, slots := 24, locals := 234 } : Room) (va_Pc [.ref h, .int ra, .int rb, .int rc, .ref o] (TXB (MRB D ad h q1 q2 (tL cA cB cC) (cL h q1 q2 cA cB tf ff cw td an qb pa o cC fo) [] sz))) (va_Qi (fun (r u : Int32) => r = u) (fun u t => ∃ (v : Int32) (w_tf : Nat → Int32) (w_ff : Nat → Int64) (w_td : Int32) (w_an : Bool) (w_qb : Int32) (w_pa : Bool) (w_fo : Nat → Int64), R_remainder tf ff cw td an qb pa ra rb rc = (v, u, w_tf, w_ff, w_td, w_an, w_qb, w_pa) ∧ (u = 0 → w_fo 0 = v.toInt64) ∧ va_P D vwCl (cL h q1 q2 cA cB w_tf w_ff cw w_td w_an w_qb w_pa o cC w_fo) t.heap ∧ va_D (va_A (cL h q1 q2 cA cB tf ff cw td an qb pa o cC fo) sz) (cL h q1 q2 cA cB w_tf w_ff cw w_td w_an w_qb w_pa o cC w_fo)) (va_A (cL h q1 q2 cA cB tf ff cw td an qb pa o cC fo) sz)) 6 24 (va_A (cL h q1 q2 cA cB tf ff cw td an qb pa o cC fo) sz) := by
  refine va_MetW (cc := cL_remainder) (maxL := 6) (ret := some .int) (hh := [(0, 12, 15, 19)]) (by decide) rfl ?_
  intro p e s m args below meth c s₁ B hml hv
  have htab := vx_table (x := yL_remainder) B (atoms_spec (ws := wsL_remainder) B.pre _ List.mem_cons_self)
  obtain ⟨rfl, ⟨hsz, hP, hK, hD0, hR0, hRp, hE⟩, hDW⟩ := hv
  have hx := B.exec
  have hb := B.bytes
  have hr := B.returns
  have hts := atoms_spec (ws := wsL_remainder) B.pre
  have hown : s.vm.findClass RL = some m.cls := findClass_of_methodNamed B.named
  have w_1 := hts (.classLink RL 19 xIOB) (by decide +kernel)
  subst hsz
  have hD := hD0.self (sz := s.heap.size)
  generalize hAe : va_A (cL h q1 q2 cA cB tf ff cw td an qb pa o cC fo) s.heap.size = A at hD hE ⊢
  have hA : ∀ q : Nat, s.heap.size ≤ q → A q := fun q h => by rw [← hAe]; exact Or.inr h
  have hS : va_S A s.heap s.heap [] := va_S.rf
  have hP : va_P D vwCl (cL h q1 q2 cA cB tf ff cw td an qb pa o cC fo) s.heap := hP
  have nxo : ap3 o h q1 q2 := ap_D hD
  have hl := lv_entry ([.ref h, .int ra, .int rb, .int rc, .ref o]) (n := 6) (Nat.le_of_ble_eq_true rfl)
  rw [lg_entry_eq]
  generalize (lg_sl ([.ref h, .int ra, .int rb, .int rc, .ref o]) ++ List.replicate (6 - (lg_sl ([.ref h, .int ra, .int rb, .int rc, .ref o])).length) Slot.unset).toArray = ls at hl ⊢
  have hl : lv_has ls 6 [(0, .ref h), (1, .int ra), (2, .int rb), (3, .int rc), (4, .ref o)] := hl
  refine lv_aload hx hb dL_remainder_0 (lv_at hl 4 rfl) ?_
  refine lv_iconst (v := 0) hx hb dL_remainder_2 (by decide) ?_
  refine lv_aload_n hx hb dL_remainder_3 rfl (lv_at hl 0 rfl) ?_
  refine lv_iload_n hx hb dL_remainder_4 rfl (lv_at hl 1 rfl) ?_
  refine lv_iload_n hx hb dL_remainder_5 rfl (lv_at hl 2 rfl) ?_
  refine lv_iload_n hx hb dL_remainder_6 rfl (lv_at hl 3 rfl) ?_
  have hK3 : va_K D vwCl (tRS cA cB) s := hK.sub [0, 1] rfl
  have hP3 : va_P D vwCl (cRS h q1 q2 cA cB tf ff cw td an qb pa) s.heap := hP.sub [0, 1, 2] rfl
  have hD3 : va_D A (cRS h q1 q2 cA cB tf ff cw td an qb pa) := hD.sub [0, 1, 2] (by decide) rfl
  have hFc := va_free (wc := cRS h q1 q2 cA cB tf ff cw td an qb pa) hD hS hA [0, 1, 2] rfl
  refine vx_calli (vx_runV (As := [.int ra, .int rb, .int rc]) (rest := [.int 0, .ref o]) ⟨hx, hb, hml, hown, hts⟩ (c_X2_remainder l hl9 D ad h q1 q2 cA cB tf ff cw td an qb pa ra rb rc s.heap.size) (cwV 3 hts gL_remainder_X2_remainder rfl rfl rfl kV_X2_remainder ⟨Nat.le_of_ble_eq_true rfl, Nat.le_of_ble_eq_true rfl⟩) ⟨TXB.blind MRB.blind, va_recv hK3 hP3 (ci := 1) (q0 := 0) rfl rfl, TXB.pre (MRB.pre hK3 hP3 hD3 vP_nil ap_nil hE hS hFc) hDW⟩ rfl rfl hl.1 rfl (lv_room (Nat.le_of_ble_eq_true rfl)) dL_remainder_7 ⟨Nat.le_of_ble_eq_true rfl, Nat.le_of_ble_eq_true rfl⟩) hS (fun q _ h9 => hFc q h9) hFc (fun q _ h9 => hFc q h9) (fun E9 ce9 q9 u9 t9 H9 locs9 ht hvm hw hB hz1 hk1 hS9 hce9 hcv9 hcl9 => ?_) (fun v9 u9 t9 H locs ht hvm hw hB hz1 hk1 hS => ?_)
  · obtain ⟨k9, hq, hc9, hP3⟩ := hB
    rw [ht] at hP3
    have hP9 : va_P D vwCl (cL h q1 q2 cA cB tf ff cw td an qb pa o cC fo) H9 := hP3.app (ro_keep (hP.sub [3] rfl) nxo hk1)
    have htab : c.exceptionTable.toList = [{ startPc := 0, endPc := 12, handlerPc := 15, catchType := 19 }] := htab
    obtain ⟨hE9, hk9⟩ := hc9
    subst hk9
    subst hE9
    refine vx_catch hown [] ({ startPc := 0, endPc := 12, handlerPc := 15, catchType := 19 }) [] htab (fun z hz => absurd hz List.not_mem_nil) rfl (by decide) w_1 (va_Nw.use rfl (hE.2.2.1 (.castable xIOB xIOB) (by decide))) hce9 hcv9 hcl9 ?_
    refine lv_astore (lv' := [(5, .ref q9), (0, .ref h), (1, .int ra), (2, .int rb), (3, .int rc), (4, .ref o)]) hx hb dL_remainder_15 hl (by decide) rfl (fun ls hl => ?_)
    refine lv_iconst (v := 1) hx hb dL_remainder_17 (by decide) ?_
    exact W.iret hx hb hr (fun t9 ht hW => ⟨⟨_, 1, rfl, rfl, ⟨0, tf, ff, td, an, qb, pa, fo, hq, (fun h => absurd h (by decide)), by rw [ht]; exact hP9, hD⟩⟩, hS9.F ht⟩) hS9.2.2 dL_remainder_18
  · obtain rfl := hw
    obtain ⟨o_tf, o_ff, o_td, o_an, o_qb, o_pa, hq, hP3, hD9⟩ := hB
    rw [ht] at hP3
    have hP : va_P D vwCl (cL h q1 q2 cA cB o_tf o_ff cw o_td o_an o_qb o_pa o cC fo) H := hP3.app (ro_keep (hP.sub [3] rfl) nxo hk1)
    have hD : va_D A (cL h q1 q2 cA cB o_tf o_ff cw o_td o_an o_qb o_pa o cC fo) := cL_D _ _ _ _ hD
    refine lv_i2l (v := v9.toInt64) hx hb dL_remainder_10 rfl ?_
    refine va_last hx hb hK hP hD hS 3 2 rfl rfl in_01 dL_remainder_11 (fun H locs hP hD hS => ?_)
    have hP : va_P D vwCl (cL h q1 q2 cA cB o_tf o_ff cw o_td o_an o_qb o_pa o cC (vp_updL fo (0 : Int32).toNatClampNeg v9.toInt64)) H := hP
    have hD : va_D A (cL h q1 q2 cA cB o_tf o_ff cw o_td o_an o_qb o_pa o cC (vp_updL fo (0 : Int32).toNatClampNeg v9.toInt64)) := hD
    refine lv_goto (tgt := 19) hx hb dL_remainder_12 (by decide) ?_
    refine lv_iconst (v := 0) hx hb dL_remainder_19 (by decide) ?_
    exact W.iret hx hb hr (fun t9 ht hW => ⟨⟨_, 0, rfl, rfl, ⟨v9, o_tf, o_ff, o_td, o_an, o_qb, o_pa, _, hq, (fun _ => updL_0 _ _), by rw [ht]; exact hP, hD⟩⟩, hS.F ht⟩) hS.2.2 dL_remainder_20
theorem kS_L_compare : yL_compare.cls ≠ "java/lang/invoke/MethodHandle" ∧ yL_compare.cls ≠ "java/lang/invoke/VarHandle" ∧ (parseMethodDescriptor yL_compare.desc).map (fun d => d.parameters.length) = some 4 := by decide +kernel
set_option maxHeartbeats 4000000 in
set_option maxRecDepth 100000 in
theorem c_L_compare (l : Launch) (hl9 : l.stackTraces = false) (D : va_G) (ad : Nat → Nat) (h : Nat) (q1 : Nat) (q2 : Nat) (cA : ClassId) (cB : ClassId) (tf : Nat → Int32) (ff : Nat → Int64) (cw : Int32) (td : Int32) (an : Bool) (qb : Int32) (pa : Bool) (o : Nat) (cC : ClassId) (fo : Nat → Int64) (ra : Int32) (rb : Int32) (sz : Nat) : Met l yL_compare wsL_compare ({ frames := 8, cells := 4, slots := 16, locals := 134 } : Room) (va_Pc [.ref h, .int ra, .int rb, .ref o] (TXB (MRB D ad h q1 q2 (tL cA cB cC) (cL h q1 q2 cA cB tf ff cw td an qb pa o cC fo) [] sz))) (va_Qi (fun (r u : Int32) => r = u) (fun u t => ∃ (v : Int32) (w_td : Int32) (w_an : Bool) (w_fo : Nat → Int64), R_compare tf ff cw td an ra rb = (v, u, w_td, w_an) ∧ (u = 0 → w_fo 0 = v.toInt64) ∧ va_P D vwCl (cL h q1 q2 cA cB tf ff cw w_td w_an qb pa o cC w_fo) t.heap ∧ va_D (va_A (cL h q1 q2 cA cB tf ff cw td an qb pa o cC fo) sz) (cL h q1 q2 cA cB tf ff cw w_td w_an qb pa o cC w_fo)) (va_A (cL h q1 q2 cA cB tf ff cw td an qb pa o cC fo) sz)) 4 16 (va_A (cL h q1 q2 cA cB tf ff cw td an qb pa o cC fo) sz) := by
  refine va_MetW (cc := cL_compare) (maxL := 5) (ret := some .int) (hh := [(0, 10, 13, 19)]) (by decide) rfl ?_
  intro p e s m args below meth c s₁ B hml hv
  have htab := vx_table (x := yL_compare) B (atoms_spec (ws := wsL_compare) B.pre _ List.mem_cons_self)
  obtain ⟨rfl, ⟨hsz, hP, hK, hD0, hR0, hRp, hE⟩, hDW⟩ := hv
  have hx := B.exec
  have hb := B.bytes
  have hr := B.returns
  have hts := atoms_spec (ws := wsL_compare) B.pre
  have hown : s.vm.findClass RL = some m.cls := findClass_of_methodNamed B.named
  have w_1 := hts (.classLink RL 19 xIOB) (by decide +kernel)
  subst hsz
  have hD := hD0.self (sz := s.heap.size)
  generalize hAe : va_A (cL h q1 q2 cA cB tf ff cw td an qb pa o cC fo) s.heap.size = A at hD hE ⊢
  have hA : ∀ q : Nat, s.heap.size ≤ q → A q := fun q h => by rw [← hAe]; exact Or.inr h
  have hS : va_S A s.heap s.heap [] := va_S.rf
  have hP : va_P D vwCl (cL h q1 q2 cA cB tf ff cw td an qb pa o cC fo) s.heap := hP
  have nxo : ap3 o h q1 q2 := ap_D hD
  have hl := lv_entry ([.ref h, .int ra, .int rb, .ref o]) (n := 5) (Nat.le_of_ble_eq_true rfl)
  rw [lg_entry_eq]
  generalize (lg_sl ([.ref h, .int ra, .int rb, .ref o]) ++ List.replicate (5 - (lg_sl ([.ref h, .int ra, .int rb, .ref o])).length) Slot.unset).toArray = ls at hl ⊢
  have hl : lv_has ls 5 [(0, .ref h), (1, .int ra), (2, .int rb), (3, .ref o)] := hl
  refine lv_aload_n hx hb dL_compare_0 rfl (lv_at hl 3 rfl) ?_
  refine lv_iconst (v := 0) hx hb dL_compare_1 (by decide) ?_
  refine lv_aload_n hx hb dL_compare_2 rfl (lv_at hl 0 rfl) ?_
  refine lv_iload_n hx hb dL_compare_3 rfl (lv_at hl 1 rfl) ?_
  refine lv_iload_n hx hb dL_compare_4 rfl (lv_at hl 2 rfl) ?_
  have hK3 : va_K D vwCl (tRS cA cB) s := hK.sub [0, 1] rfl
  have hP3 : va_P D vwCl (cRS h q1 q2 cA cB tf ff cw td an qb pa) s.heap := hP.sub [0, 1, 2] rfl
  have hD3 : va_D A (cRS h q1 q2 cA cB tf ff cw td an qb pa) := hD.sub [0, 1, 2] (by decide) rfl
  have hFc := va_free (wc := cRS h q1 q2 cA cB tf ff cw td an qb pa) hD hS hA [0, 1, 2] rfl
  refine vx_calli (vx_runV (As := [.int ra, .int rb]) (rest := [.int 0, .ref o]) ⟨hx, hb, hml, hown, hts⟩ (c_X2_compare l hl9 D ad h q1 q2 cA cB tf ff cw td an qb pa ra rb s.heap.size) (cwV 2 hts gL_compare_X2_compare rfl rfl rfl kV_X2_compare ⟨Nat.le_of_ble_eq_true rfl, Nat.le_of_ble_eq_true rfl⟩) ⟨TXB.blind MRB.blind, va_recv hK3 hP3 (ci := 1) (q0 := 0) rfl rfl, TXB.pre (MRB.pre hK3 hP3 hD3 vP_nil ap_nil hE hS hFc) hDW⟩ rfl rfl hl.1 rfl (lv_room (Nat.le_of_ble_eq_true rfl)) dL_compare_5 ⟨Nat.le_of_ble_eq_true rfl, Nat.le_of_ble_eq_true rfl⟩) hS (fun q _ h9 => hFc q h9) hFc (fun q _ h9 => hFc q h9) (fun E9 ce9 q9 u9 t9 H9 locs9 ht hvm hw hB hz1 hk1 hS9 hce9 hcv9 hcl9 => ?_) (fun v9 u9 t9 H locs ht hvm hw hB hz1 hk1 hS => ?_)
  · obtain ⟨k9, hq, hc9, hP3⟩ := hB
    rw [ht] at hP3
    have hP9 : va_P D vwCl (cL h q1 q2 cA cB tf ff cw td an qb pa o cC fo) H9 := hP3.app (ro_keep (hP.sub [3] rfl) nxo hk1)
    have htab : c.exceptionTable.toList = [{ startPc := 0, endPc := 10, handlerPc := 13, catchType := 19 }] := htab
    obtain ⟨hE9, hk9⟩ := hc9
    subst hk9
    subst hE9
    refine vx_catch hown [] ({ startPc := 0, endPc := 10, handlerPc := 13, catchType := 19 }) [] htab (fun z hz => absurd hz List.not_mem_nil) rfl (by decide) w_1 (va_Nw.use rfl (hE.2.2.1 (.castable xIOB xIOB) (by decide))) hce9 hcv9 hcl9 ?_
    refine lv_astore (lv' := [(4, .ref q9), (0, .ref h), (1, .int ra), (2, .int rb), (3, .ref o)]) hx hb dL_compare_13 hl (by decide) rfl (fun ls hl => ?_)
    refine lv_iconst (v := 1) hx hb dL_compare_15 (by decide) ?_
    exact W.iret hx hb hr (fun t9 ht hW => ⟨⟨_, 1, rfl, rfl, ⟨0, td, an, fo, hq, (fun h => absurd h (by decide)), by rw [ht]; exact hP9, hD⟩⟩, hS9.F ht⟩) hS9.2.2 dL_compare_16
  · obtain rfl := hw
    obtain ⟨o_td, o_an, hq, hP3, hD9⟩ := hB
    rw [ht] at hP3
    have hP : va_P D vwCl (cL h q1 q2 cA cB tf ff cw o_td o_an qb pa o cC fo) H := hP3.app (ro_keep (hP.sub [3] rfl) nxo hk1)
    have hD : va_D A (cL h q1 q2 cA cB tf ff cw o_td o_an qb pa o cC fo) := cL_D _ _ _ _ hD
    refine lv_i2l (v := v9.toInt64) hx hb dL_compare_8 rfl ?_
    refine va_last hx hb hK hP hD hS 3 2 rfl rfl in_01 dL_compare_9 (fun H locs hP hD hS => ?_)
    have hP : va_P D vwCl (cL h q1 q2 cA cB tf ff cw o_td o_an qb pa o cC (vp_updL fo (0 : Int32).toNatClampNeg v9.toInt64)) H := hP
    have hD : va_D A (cL h q1 q2 cA cB tf ff cw o_td o_an qb pa o cC (vp_updL fo (0 : Int32).toNatClampNeg v9.toInt64)) := hD
    refine lv_goto (tgt := 17) hx hb dL_compare_10 (by decide) ?_
    refine lv_iconst (v := 0) hx hb dL_compare_17 (by decide) ?_
    exact W.iret hx hb hr (fun t9 ht hW => ⟨⟨_, 0, rfl, rfl, ⟨v9, o_td, o_an, _, hq, (fun _ => updL_0 _ _), by rw [ht]; exact hP, hD⟩⟩, hS.F ht⟩) hS.2.2 dL_compare_18
theorem kS_L_test : yL_test.cls ≠ "java/lang/invoke/MethodHandle" ∧ yL_test.cls ≠ "java/lang/invoke/VarHandle" ∧ (parseMethodDescriptor yL_test.desc).map (fun d => d.parameters.length) = some 3 := by decide +kernel
set_option maxHeartbeats 4000000 in
set_option maxRecDepth 100000 in
theorem c_L_test (l : Launch) (hl9 : l.stackTraces = false) (D : va_G) (ad : Nat → Nat) (h : Nat) (q1 : Nat) (q2 : Nat) (cA : ClassId) (cB : ClassId) (tf : Nat → Int32) (ff : Nat → Int64) (cw : Int32) (td : Int32) (an : Bool) (qb : Int32) (pa : Bool) (o : Nat) (cC : ClassId) (fo : Nat → Int64) (ra : Int32) (sz : Nat) : Met l yL_test wsL_test ({ frames := 8, cells := 3, slots := 10, locals := 133 } : Room) (va_Pc [.ref h, .int ra, .ref o] (TXB (MRB D ad h q1 q2 (tL cA cB cC) (cL h q1 q2 cA cB tf ff cw td an qb pa o cC fo) [] sz))) (va_Qi (fun (r u : Int32) => r = u) (fun u t => ∃ (v : Int32) (w_td : Int32) (w_an : Bool) (w_fo : Nat → Int64), R_test tf ff cw td an ra = (v, u, w_td, w_an) ∧ (u = 0 → w_fo 0 = v.toInt64) ∧ va_P D vwCl (cL h q1 q2 cA cB tf ff cw w_td w_an qb pa o cC w_fo) t.heap ∧ va_D (va_A (cL h q1 q2 cA cB tf ff cw td an qb pa o cC fo) sz) (cL h q1 q2 cA cB tf ff cw w_td w_an qb pa o cC w_fo)) (va_A (cL h q1 q2 cA cB tf ff cw td an qb pa o cC fo) sz)) 3 10 (va_A (cL h q1 q2 cA cB tf ff cw td an qb pa o cC fo) sz) := by
  refine va_MetW (cc := cL_test) (maxL := 4) (ret := some .int) (hh := [(0, 9, 12, 19)]) (by decide) rfl ?_
  intro p e s m args below meth c s₁ B hml hv
  have htab := vx_table (x := yL_test) B (atoms_spec (ws := wsL_test) B.pre _ List.mem_cons_self)
  obtain ⟨rfl, ⟨hsz, hP, hK, hD0, hR0, hRp, hE⟩, hDW⟩ := hv
  have hx := B.exec
  have hb := B.bytes
  have hr := B.returns
  have hts := atoms_spec (ws := wsL_test) B.pre
  have hown : s.vm.findClass RL = some m.cls := findClass_of_methodNamed B.named
  have w_1 := hts (.classLink RL 19 xIOB) (by decide +kernel)
  subst hsz
  have hD := hD0.self (sz := s.heap.size)
  generalize hAe : va_A (cL h q1 q2 cA cB tf ff cw td an qb pa o cC fo) s.heap.size = A at hD hE ⊢
  have hA : ∀ q : Nat, s.heap.size ≤ q → A q := fun q h => by rw [← hAe]; exact Or.inr h
  have hS : va_S A s.heap s.heap [] := va_S.rf
  have hP : va_P D vwCl (cL h q1 q2 cA cB tf ff cw td an qb pa o cC fo) s.heap := hP
  have nxo : ap3 o h q1 q2 := ap_D hD
  have hl := lv_entry ([.ref h, .int ra, .ref o]) (n := 4) (Nat.le_of_ble_eq_true rfl)
  rw [lg_entry_eq]
  generalize (lg_sl ([.ref h, .int ra, .ref o]) ++ List.replicate (4 - (lg_sl ([.ref h, .int ra, .ref o])).length) Slot.unset).toArray = ls at hl ⊢
  have hl : lv_has ls 4 [(0, .ref h), (1, .int ra), (2, .ref o)] := hl
  refine lv_aload_n hx hb dL_test_0 rfl (lv_at hl 2 rfl) ?_
  refine lv_iconst (v := 0) hx hb dL_test_1 (by decide) ?_
  refine lv_aload_n hx hb dL_test_2 rfl (lv_at hl 0 rfl) ?_
  refine lv_iload_n hx hb dL_test_3 rfl (lv_at hl 1 rfl) ?_
  have hK3 : va_K D vwCl (tRS cA cB) s := hK.sub [0, 1] rfl
  have hP3 : va_P D vwCl (cRS h q1 q2 cA cB tf ff cw td an qb pa) s.heap := hP.sub [0, 1, 2] rfl
  have hD3 : va_D A (cRS h q1 q2 cA cB tf ff cw td an qb pa) := hD.sub [0, 1, 2] (by decide) rfl
  have hFc := va_free (wc := cRS h q1 q2 cA cB tf ff cw td an qb pa) hD hS hA [0, 1, 2] rfl
  refine vx_calli (vx_runV (As := [.int ra]) (rest := [.int 0, .ref o]) ⟨hx, hb, hml, hown, hts⟩ (c_X2_test l hl9 D ad h q1 q2 cA cB tf ff cw td an qb pa ra s.heap.size) (cwV 1 hts gL_test_X2_test rfl rfl rfl kV_X2_test ⟨Nat.le_of_ble_eq_true rfl, Nat.le_of_ble_eq_true rfl⟩) ⟨TXB.blind MRB.blind, va_recv hK3 hP3 (ci := 1) (q0 := 0) rfl rfl, TXB.pre (MRB.pre hK3 hP3 hD3 vP_nil ap_nil hE hS hFc) hDW⟩ rfl rfl hl.1 rfl (lv_room (Nat.le_of_ble_eq_true rfl)) dL_test_4 ⟨Nat.le_of_ble_eq_true rfl, Nat.le_of_ble_eq_true rfl⟩) hS (fun q _ h9 => hFc q h9) hFc (fun q _ h9 => hFc q h9) (fun E9 ce9 q9 u9 t9 H9 locs9 ht hvm hw hB hz1 hk1 hS9 hce9 hcv9 hcl9 => ?_) (fun v9 u9 t9 H locs ht hvm hw hB hz1 hk1 hS => ?_)
  · obtain ⟨k9, hq, hc9, hP3⟩ := hB
    rw [ht] at hP3
    have hP9 : va_P D vwCl (cL h q1 q2 cA cB tf ff cw td an qb pa o cC fo) H9 := hP3.app (ro_keep (hP.sub [3] rfl) nxo hk1)
    have htab : c.exceptionTable.toList = [{ startPc := 0, endPc := 9, handlerPc := 12, catchType := 19 }] := htab
    obtain ⟨hE9, hk9⟩ := hc9
    subst hk9
    subst hE9
    refine vx_catch hown [] ({ startPc := 0, endPc := 9, handlerPc := 12, catchType := 19 }) [] htab (fun z hz => absurd hz List.not_mem_nil) rfl (by decide) w_1 (va_Nw.use rfl (hE.2.2.1 (.castable xIOB xIOB) (by decide))) hce9 hcv9 hcl9 ?_
    refine lv_astore_n (lv' := [(3, .ref q9), (0, .ref h), (1, .int ra), (2, .ref o)]) hx hb dL_test_12 rfl hl (by decide) rfl (fun ls hl => ?_)
    refine lv_iconst (v := 1) hx hb dL_test_13 (by decide) ?_
    exact W.iret hx hb hr (fun t9 ht hW => ⟨⟨_, 1, rfl, rfl, ⟨0, td, an, fo, hq, (fun h => absurd h (by decide)), by rw [ht]; exact hP9, hD⟩⟩, hS9.F ht⟩) hS9.2.2 dL_test_14
  · obtain rfl := hw
    obtain ⟨o_td, o_an, hq, hP3, hD9⟩ := hB
    rw [ht] at hP3
    have hP : va_P D vwCl (cL h q1 q2 cA cB tf ff cw o_td o_an qb pa o cC fo) H := hP3.app (ro_keep (hP.sub [3] rfl) nxo hk1)
    have hD : va_D A (cL h q1 q2 cA cB tf ff cw o_td o_an qb pa o cC fo) := cL_D _ _ _ _ hD
    refine lv_i2l (v := v9.toInt64) hx hb dL_test_7 rfl ?_
    refine va_last hx hb hK hP hD hS 3 2 rfl rfl in_01 dL_test_8 (fun H locs hP hD hS => ?_)
    have hP : va_P D vwCl (cL h q1 q2 cA cB tf ff cw o_td o_an qb pa o cC (vp_updL fo (0 : Int32).toNatClampNeg v9.toInt64)) H := hP
    have hD : va_D A (cL h q1 q2 cA cB tf ff cw o_td o_an qb pa o cC (vp_updL fo (0 : Int32).toNatClampNeg v9.toInt64)) := hD
    refine lv_goto (tgt := 15) hx hb dL_test_9 (by decide) ?_
    refine lv_iconst (v := 0) hx hb dL_test_15 (by decide) ?_
    exact W.iret hx hb hr (fun t9 ht hW => ⟨⟨_, 0, rfl, rfl, ⟨v9, o_td, o_an, _, hq, (fun _ => updL_0 _ _), by rw [ht]; exact hP, hD⟩⟩, hS.F ht⟩) hS.2.2 dL_test_16
theorem kS_L_examine : yL_examine.cls ≠ "java/lang/invoke/MethodHandle" ∧ yL_examine.cls ≠ "java/lang/invoke/VarHandle" ∧ (parseMethodDescriptor yL_examine.desc).map (fun d => d.parameters.length) = some 3 := by decide +kernel
set_option maxHeartbeats 4000000 in
set_option maxRecDepth 100000 in
theorem c_L_examine (l : Launch) (hl9 : l.stackTraces = false) (D : va_G) (ad : Nat → Nat) (h : Nat) (q1 : Nat) (q2 : Nat) (cA : ClassId) (cB : ClassId) (tf : Nat → Int32) (ff : Nat → Int64) (cw : Int32) (td : Int32) (an : Bool) (qb : Int32) (pa : Bool) (o : Nat) (cC : ClassId) (fo : Nat → Int64) (ra : Int32) (sz : Nat) : Met l yL_examine wsL_examine ({ frames := 8, cells := 2, slots := 8, locals := 132 } : Room) (va_Pc [.ref h, .int ra, .ref o] (TXB (MRB D ad h q1 q2 (tL cA cB cC) (cL h q1 q2 cA cB tf ff cw td an qb pa o cC fo) [] sz))) (va_Qi (fun (r u : Int32) => r = u) (fun u t => ∃ (v : Int32) (w_fo : Nat → Int64), R_examine tf ff ra = (v, u) ∧ (u = 0 → w_fo 0 = v.toInt64) ∧ va_P D vwCl (cL h q1 q2 cA cB tf ff cw td an qb pa o cC w_fo) t.heap ∧ va_D (va_A (cL h q1 q2 cA cB tf ff cw td an qb pa o cC fo) sz) (cL h q1 q2 cA cB tf ff cw td an qb pa o cC w_fo)) (va_A (cL h q1 q2 cA cB tf ff cw td an qb pa o cC fo) sz)) 2 8 (va_A (cL h q1 q2 cA cB tf ff cw td an qb pa o cC fo) sz) := by
  refine va_MetW (cc := cL_examine) (maxL := 4) (ret := some .int) (hh := [(0, 9, 12, 19)]) (by decide) rfl ?_
  intro p e s m args below meth c s₁ B hml hv
  have htab := vx_table (x := yL_examine) B (atoms_spec (ws := wsL_examine) B.pre _ List.mem_cons_self)
  obtain ⟨rfl, ⟨hsz, hP, hK, hD0, hR0, hRp, hE⟩, hDW⟩ := hv
  have hx := B.exec
  have hb := B.bytes
  have hr := B.returns
  have hts := atoms_spec (ws := wsL_examine) B.pre
  have hown : s.vm.findClass RL = some m.cls := findClass_of_methodNamed B.named
  have w_1 := hts (.classLink RL 19 xIOB) (by decide +kernel)
  subst hsz
  have hD := hD0.self (sz := s.heap.size)
  generalize hAe : va_A (cL h q1 q2 cA cB tf ff cw td an qb pa o cC fo) s.heap.size = A at hD hE ⊢
  have hA : ∀ q : Nat, s.heap.size ≤ q → A q := fun q h => by rw [← hAe]; exact Or.inr h
  have hS : va_S A s.heap s.heap [] := va_S.rf
  have hP : va_P D vwCl (cL h q1 q2 cA cB tf ff cw td an qb pa o cC fo) s.heap := hP
  have nxo : ap3 o h q1 q2 := ap_D hD
  have hl := lv_entry ([.ref h, .int ra, .ref o]) (n := 4) (Nat.le_of_ble_eq_true rfl)
  rw [lg_entry_eq]
  generalize (lg_sl ([.ref h, .int ra, .ref o]) ++ List.replicate (4 - (lg_sl ([.ref h, .int ra, .ref o])).length) Slot.unset).toArray = ls at hl ⊢
  have hl : lv_has ls 4 [(0, .ref h), (1, .int ra), (2, .ref o)] := hl
  refine lv_aload_n hx hb dL_examine_0 rfl (lv_at hl 2 rfl) ?_
  refine lv_iconst (v := 0) hx hb dL_examine_1 (by decide) ?_
  refine lv_aload_n hx hb dL_examine_2 rfl (lv_at hl 0 rfl) ?_
  refine lv_iload_n hx hb dL_examine_3 rfl (lv_at hl 1 rfl) ?_
  have hK3 : va_K D vwCl (tRS cA cB) s := hK.sub [0, 1] rfl
  have hP3 : va_P D vwCl (cRS h q1 q2 cA cB tf ff cw td an qb pa) s.heap := hP.sub [0, 1, 2] rfl
  have hD3 : va_D A (cRS h q1 q2 cA cB tf ff cw td an qb pa) := hD.sub [0, 1, 2] (by decide) rfl
  have hFc := va_free (wc := cRS h q1 q2 cA cB tf ff cw td an qb pa) hD hS hA [0, 1, 2] rfl
  refine vx_calli (vx_runV (As := [.int ra]) (rest := [.int 0, .ref o]) ⟨hx, hb, hml, hown, hts⟩ (c_X2_examine l hl9 D ad h q1 q2 cA cB tf ff cw td an qb pa ra s.heap.size) (cwV 1 hts gL_examine_X2_examine rfl rfl rfl kV_X2_examine ⟨Nat.le_of_ble_eq_true rfl, Nat.le_of_ble_eq_true rfl⟩) ⟨TXB.blind MRB.blind, va_recv hK3 hP3 (ci := 1) (q0 := 0) rfl rfl, TXB.pre (MRB.pre hK3 hP3 hD3 vP_nil ap_nil hE hS hFc) hDW⟩ rfl rfl hl.1 rfl (lv_room (Nat.le_of_ble_eq_true rfl)) dL_examine_4 ⟨Nat.le_of_ble_eq_true rfl, Nat.le_of_ble_eq_true rfl⟩) hS (fun q _ h9 => hFc q h9) hFc (fun q _ h9 => hFc q h9) (fun E9 ce9 q9 u9 t9 H9 locs9 ht hvm hw hB hz1 hk1 hS9 hce9 hcv9 hcl9 => ?_) (fun v9 u9 t9 H locs ht hvm hw hB hz1 hk1 hS => ?_)
  · obtain ⟨k9, hq, hc9, hP3⟩ := hB
    rw [ht] at hP3
    have hP9 : va_P D vwCl (cL h q1 q2 cA cB tf ff cw td an qb pa o cC fo) H9 := hP3.app (ro_keep (hP.sub [3] rfl) nxo hk1)
    have htab : c.exceptionTable.toList = [{ startPc := 0, endPc := 9, handlerPc := 12, catchType := 19 }] := htab
    obtain ⟨hE9, hk9⟩ := hc9
    subst hk9
    subst hE9
    refine vx_catch hown [] ({ startPc := 0, endPc := 9, handlerPc := 12, catchType := 19 }) [] htab (fun z hz => absurd hz List.not_mem_nil) rfl (by decide) w_1 (va_Nw.use rfl (hE.2.2.1 (.castable xIOB xIOB) (by decide))) hce9 hcv9 hcl9 ?_
    refine lv_astore_n (lv' := [(3, .ref q9), (0, .ref h), (1, .int ra), (2, .ref o)]) hx hb dL_examine_12 rfl hl (by decide) rfl (fun ls hl => ?_)
    refine lv_iconst (v := 1) hx hb dL_examine_13 (by decide) ?_
    exact W.iret hx hb hr (fun t9 ht hW => ⟨⟨_, 1, rfl, rfl, ⟨0, fo, hq, (fun h => absurd h (by decide)), by rw [ht]; exact hP9, hD⟩⟩, hS9.F ht⟩) hS9.2.2 dL_examine_14
  · obtain rfl := hw
    obtain ⟨hq, hP3, hD9⟩ := hB
    rw [ht] at hP3
    have hP : va_P D vwCl (cL h q1 q2 cA cB tf ff cw td an qb pa o cC fo) H := hP3.app (ro_keep (hP.sub [3] rfl) nxo hk1)
    have hD : va_D A (cL h q1 q2 cA cB tf ff cw td an qb pa o cC fo) := cL_D _ _ _ _ hD
    refine lv_i2l (v := v9.toInt64) hx hb dL_examine_7 rfl ?_
    refine va_last hx hb hK hP hD hS 3 2 rfl rfl in_01 dL_examine_8 (fun H locs hP hD hS => ?_)
    have hP : va_P D vwCl (cL h q1 q2 cA cB tf ff cw td an qb pa o cC (vp_updL fo (0 : Int32).toNatClampNeg v9.toInt64)) H := hP
    have hD : va_D A (cL h q1 q2 cA cB tf ff cw td an qb pa o cC (vp_updL fo (0 : Int32).toNatClampNeg v9.toInt64)) := hD
    refine lv_goto (tgt := 15) hx hb dL_examine_9 (by decide) ?_
    refine lv_iconst (v := 0) hx hb dL_examine_15 (by decide) ?_
    exact W.iret hx hb hr (fun t9 ht hW => ⟨⟨_, 0, rfl, rfl, ⟨v9, _, hq, (fun _ => updL_0 _ _), by rw [ht]; exact hP, hD⟩⟩, hS.F ht⟩) hS.2.2 dL_examine_16
theorem kS_L_told : yL_told.cls ≠ "java/lang/invoke/MethodHandle" ∧ yL_told.cls ≠ "java/lang/invoke/VarHandle" ∧ (parseMethodDescriptor yL_told.desc).map (fun d => d.parameters.length) = some 3 := by decide +kernel
set_option maxHeartbeats 4000000 in
set_option maxRecDepth 100000 in
theorem c_L_told (l : Launch) (hl9 : l.stackTraces = false) (D : va_G) (ad : Nat → Nat) (h : Nat) (q1 : Nat) (q2 : Nat) (cA : ClassId) (cB : ClassId) (tf : Nat → Int32) (ff : Nat → Int64) (cw : Int32) (td : Int32) (an : Bool) (qb : Int32) (pa : Bool) (o : Nat) (cC : ClassId) (fo : Nat → Int64) (wh : Int32) (sz : Nat) : Met l yL_told wsL_told ({ frames := 7, cells := 1, slots := 6, locals := 111 } : Room) (va_Pc [.ref h, .int wh, .ref o] (TXB (MRB D ad h q1 q2 (tL cA cB cC) (cL h q1 q2 cA cB tf ff cw td an qb pa o cC fo) [] sz))) (va_Qi (fun (r u : Int32) => r = u) (fun u t => ∃ (v : Int32) (w_fo : Nat → Int64), R_told td an qb pa wh = (v, u) ∧ (u = 0 → w_fo 0 = v.toInt64) ∧ va_P D vwCl (cL h q1 q2 cA cB tf ff cw td an qb pa o cC w_fo) t.heap ∧ va_D (va_A (cL h q1 q2 cA cB tf ff cw td an qb pa o cC fo) sz) (cL h q1 q2 cA cB tf ff cw td an qb pa o cC w_fo)) (va_A (cL h q1 q2 cA cB tf ff cw td an qb pa o cC fo) sz)) 1 6 (va_A (cL h q1 q2 cA cB tf ff cw td an qb pa o cC fo) sz) := by
  refine va_MetW (cc := cL_told) (maxL := 4) (ret := some .int) (hh := [(0, 9, 12, 13)]) (by decide) rfl ?_
  intro p e s m args below meth c s₁ B hml hv
  have htab := vx_table (x := yL_told) B (atoms_spec (ws := wsL_told) B.pre _ List.mem_cons_self)
  obtain ⟨rfl, ⟨hsz, hP, hK, hD0, hR0, hRp, hE⟩, hDW⟩ := hv
  have hx := B.exec
  have hb := B.bytes
  have hr := B.returns
  have hts := atoms_spec (ws := wsL_told) B.pre
  have hown : s.vm.findClass RL = some m.cls := findClass_of_methodNamed B.named
  have w_1 := hts (.classLink RL 13 xIAE) (by decide +kernel)
  subst hsz
  have hD := hD0.self (sz := s.heap.size)
  generalize hAe : va_A (cL h q1 q2 cA cB tf ff cw td an qb pa o cC fo) s.heap.size = A at hD hE ⊢
  have hA : ∀ q : Nat, s.heap.size ≤ q → A q := fun q h => by rw [← hAe]; exact Or.inr h
  have hS : va_S A s.heap s.heap [] := va_S.rf
  have hP : va_P D vwCl (cL h q1 q2 cA cB tf ff cw td an qb pa o cC fo) s.heap := hP
  have nxo : ap3 o h q1 q2 := ap_D hD
  have hl := lv_entry ([.ref h, .int wh, .ref o]) (n := 4) (Nat.le_of_ble_eq_true rfl)
  rw [lg_entry_eq]
  generalize (lg_sl ([.ref h, .int wh, .ref o]) ++ List.replicate (4 - (lg_sl ([.ref h, .int wh, .ref o])).length) Slot.unset).toArray = ls at hl ⊢
  have hl : lv_has ls 4 [(0, .ref h), (1, .int wh), (2, .ref o)] := hl
  refine lv_aload_n hx hb dL_told_0 rfl (lv_at hl 2 rfl) ?_
  refine lv_iconst (v := 0) hx hb dL_told_1 (by decide) ?_
  refine lv_aload_n hx hb dL_told_2 rfl (lv_at hl 0 rfl) ?_
  refine lv_iload_n hx hb dL_told_3 rfl (lv_at hl 1 rfl) ?_
  have hK3 : va_K D vwCl (tRS cA cB) s := hK.sub [0, 1] rfl
  have hP3 : va_P D vwCl (cRS h q1 q2 cA cB tf ff cw td an qb pa) s.heap := hP.sub [0, 1, 2] rfl
  have hD3 : va_D A (cRS h q1 q2 cA cB tf ff cw td an qb pa) := hD.sub [0, 1, 2] (by decide) rfl
  have hFc := va_free (wc := cRS h q1 q2 cA cB tf ff cw td an qb pa) hD hS hA [0, 1, 2] rfl
  refine vx_calli (vx_runV (As := [.int wh]) (rest := [.int 0, .ref o]) ⟨hx, hb, hml, hown, hts⟩ (c_X2_told l hl9 D ad h q1 q2 cA cB tf ff cw td an qb pa wh s.heap.size) (cwV 1 hts gL_told_X2_told rfl rfl rfl kV_X2_told ⟨Nat.le_of_ble_eq_true rfl, Nat.le_of_ble_eq_true rfl⟩) ⟨TXB.blind MRB.blind, va_recv hK3 hP3 (ci := 1) (q0 := 0) rfl rfl, TXB.pre (MRB.pre hK3 hP3 hD3 vP_nil ap_nil hE hS hFc) hDW⟩ rfl rfl hl.1 rfl (lv_room (Nat.le_of_ble_eq_true rfl)) dL_told_4 ⟨Nat.le_of_ble_eq_true rfl, Nat.le_of_ble_eq_true rfl⟩) hS (fun q _ h9 => hFc q h9) hFc (fun q _ h9 => hFc q h9) (fun E9 ce9 q9 u9 t9 H9 locs9 ht hvm hw hB hz1 hk1 hS9 hce9 hcv9 hcl9 => ?_) (fun v9 u9 t9 H locs ht hvm hw hB hz1 hk1 hS => ?_)
  · obtain ⟨k9, hq, hc9, hP3⟩ := hB
    rw [ht] at hP3
    have hP9 : va_P D vwCl (cL h q1 q2 cA cB tf ff cw td an qb pa o cC fo) H9 := hP3.app (ro_keep (hP.sub [3] rfl) nxo hk1)
    have htab : c.exceptionTable.toList = [{ startPc := 0, endPc := 9, handlerPc := 12, catchType := 13 }] := htab
    obtain ⟨hE9, hk9⟩ := hc9
    subst hk9
    subst hE9
    refine vx_catch hown [] ({ startPc := 0, endPc := 9, handlerPc := 12, catchType := 13 }) [] htab (fun z hz => absurd hz List.not_mem_nil) rfl (by decide) w_1 (va_Nw.use rfl (hE.2.2.1 (.castable xIAE xIAE) (by decide))) hce9 hcv9 hcl9 ?_
    refine lv_astore_n (lv' := [(3, .ref q9), (0, .ref h), (1, .int wh), (2, .ref o)]) hx hb dL_told_12 rfl hl (by decide) rfl (fun ls hl => ?_)
    refine lv_iconst (v := 1) hx hb dL_told_13 (by decide) ?_
    exact W.iret hx hb hr (fun t9 ht hW => ⟨⟨_, 1, rfl, rfl, ⟨0, fo, hq, (fun h => absurd h (by decide)), by rw [ht]; exact hP9, hD⟩⟩, hS9.F ht⟩) hS9.2.2 dL_told_14
  · obtain rfl := hw
    obtain ⟨hq, hP3, hD9⟩ := hB
    rw [ht] at hP3
    have hP : va_P D vwCl (cL h q1 q2 cA cB tf ff cw td an qb pa o cC fo) H := hP3.app (ro_keep (hP.sub [3] rfl) nxo hk1)
    have hD : va_D A (cL h q1 q2 cA cB tf ff cw td an qb pa o cC fo) := cL_D _ _ _ _ hD
    refine lv_i2l (v := v9.toInt64) hx hb dL_told_7 rfl ?_
    refine va_last hx hb hK hP hD hS 3 2 rfl rfl in_01 dL_told_8 (fun H locs hP hD hS => ?_)
    have hP : va_P D vwCl (cL h q1 q2 cA cB tf ff cw td an qb pa o cC (vp_updL fo (0 : Int32).toNatClampNeg v9.toInt64)) H := hP
    have hD : va_D A (cL h q1 q2 cA cB tf ff cw td an qb pa o cC (vp_updL fo (0 : Int32).toNatClampNeg v9.toInt64)) := hD
    refine lv_goto (tgt := 15) hx hb dL_told_9 (by decide) ?_
    refine lv_iconst (v := 0) hx hb dL_told_15 (by decide) ?_
    exact W.iret hx hb hr (fun t9 ht hW => ⟨⟨_, 0, rfl, rfl, ⟨v9, _, hq, (fun _ => updL_0 _ _), by rw [ht]; exact hP, hD⟩⟩, hS.F ht⟩) hS.2.2 dL_told_16
