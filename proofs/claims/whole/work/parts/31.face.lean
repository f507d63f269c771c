def R_control (cw : Int32) (wd : Int32) : Int32 × Int32 :=
  if wd < 0 then (1, cw)
  else if wd ≤ 65535 then (0, wd)
  else (1, cw)
theorem kS_X2_control : yX2_control.cls ≠ "java/lang/invoke/MethodHandle" ∧ yX2_control.cls ≠ "java/lang/invoke/VarHandle" ∧ (parseMethodDescriptor yX2_control.desc).map (fun d => d.parameters.length) = some 1 := by decide +kernel
theorem kV_X2_control : yX2_control.cls = RX2 ∧ yX2_control.cls ≠ "java/lang/invoke/MethodHandle" ∧ yX2_control.cls ≠ "java/lang/invoke/VarHandle" ∧ (parseMethodDescriptor yX2_control.desc).map (fun d => d.parameters.length) = some 1 := ⟨rfl, kS_X2_control⟩
set_option maxHeartbeats 4000000 in
set_option maxRecDepth 100000 in
theorem c_X2_control (l : Launch) (hl9 : l.stackTraces = false) (D : va_G) (ad : Nat → Nat) (h : Nat) (q1 : Nat) (q2 : Nat) (cA : ClassId) (cB : ClassId) (tf : Nat → Int32) (ff : Nat → Int64) (cw : Int32) (td : Int32) (an : Bool) (qb : Int32) (pa : Bool) (wd : Int32) (sz : Nat) : vx_Met l yX2_control wsX2_control ({ frames := 6, cells := 1, slots := 6, locals := 90 } : Room) (va_Pc [.ref h, .int wd] (TXB (MRB D ad h q1 q2 (tRS cA cB) (cRS h q1 q2 cA cB tf ff cw td an qb pa) [] sz))) (va_Qv (fun (_ : Unit) => True) (fun _ t => ∃ (w_cw : Int32), R_control cw wd = (0, w_cw) ∧ va_P D vwCl (cRS h q1 q2 cA cB tf ff w_cw td an qb pa) t.heap ∧ va_D (va_A (cRS h q1 q2 cA cB tf ff cw td an qb pa) sz) (cRS h q1 q2 cA cB tf ff w_cw td an qb pa)) (va_A (cRS h q1 q2 cA cB tf ff cw td an qb pa) sz)) (vx_X (fun _ : Unit => True) (fun E _ t => ∃ k : Int32, R_control cw wd = (k, cw) ∧ (E = xIAE ∧ k = 1) ∧ va_P D vwCl (cRS h q1 q2 cA cB tf ff cw td an qb pa) t.heap) (va_A (cRS h q1 q2 cA cB tf ff cw td an qb pa) sz)) 1 6 (va_A (cRS h q1 q2 cA cB tf ff cw td an qb pa) sz) := by
  refine vx_ofW (cc := cX2_control) (maxL := 2) (ret := none) (by decide) rfl ?_
  intro p e s m args below meth c s₁ B hml htb hv
  obtain ⟨rfl, ⟨hsz, hP, hK, hD0, hR0, hRp, hE⟩, hDW⟩ := hv
  have hx := B.exec
  have hb := B.bytes
  have hr := B.returns
  have hts := atoms_spec (ws := wsX2_control) B.pre
  have hown : s.vm.findClass RX2 = some m.cls := findClass_of_methodNamed B.named
  have hlocks := B.notSynchronized
  have w_1 := hts (.classLink RX2 35 xIAE) (by decide +kernel)
  have w_2 := hts (.initialized xIAE) (by decide +kernel)
  have w_3 := hts (.constant RX2 34 (65535)) (by decide +kernel)
  have w_4 := hts (.fieldLink RX2 17 "RealSteps" "controlWord" "I") (by decide +kernel)
  have in_X2 : ∀ w ∈ wsX20, w ∈ wsX2_control := by decide +kernel
  subst hsz
  have hD := hD0.self (sz := s.heap.size)
  have hRA := rs_A hR0 hRp (e1 := .inr (1, [.ref q1, .ref q2, .int cw, .int td, .int (bI an), .int qb, .int (bI pa)])) (e2 := .inl (cA, 8, .inl tf)) (e3 := .inl (cB, 8, .inr (.inl ff)))
  generalize hAe : va_A (cRS h q1 q2 cA cB tf ff cw td an qb pa) s.heap.size = A at hD hE hRA ⊢
  have hA : ∀ q : Nat, s.heap.size ≤ q → A q := fun q h => by rw [← hAe]; exact Or.inr h
  have hS : va_S A s.heap s.heap [] := va_S.rf
  have hP : va_P D vwCl (cRS h q1 q2 cA cB tf ff cw td an qb pa) s.heap := hP
  have hl := lv_entry ([.ref h, .int wd]) (n := 2) (Nat.le_of_ble_eq_true rfl)
  rw [lg_entry_eq]
  generalize (lg_sl ([.ref h, .int wd]) ++ List.replicate (2 - (lg_sl ([.ref h, .int wd])).length) Slot.unset).toArray = ls at hl ⊢
  have hl : lv_has ls 2 [(0, .ref h), (1, .int wd)] := hl
  refine lv_iload_n hx hb dX2_control_0 rfl (lv_at hl 1 rfl) ?_
  refine lv_if_lt (tgt := 10) hx hb dX2_control_1 (by decide) (fun c_1 => ?_) (fun c_1 => ?_)
  · obtain ⟨sa9, hst9⟩ := hE.2.2.2.1 _ (List.mem_of_getElem? (i := 2) rfl)
    have hw : R_control cw wd = (1, cw) := by unfold R_control; rw [if_pos c_1]; try rfl
    exact vx_throwS hx hb hl9 (names := xNm) hown gf_xIAE gf_Nm w_1 w_2 hst9 (vx_hat (B := .castable xIAE xIAE :: decW) (fun w h => hts w (List.mem_cons_of_mem _ (List.mem_append_right _ h))) gb_xIAE (vx_c (va_Nw.use rfl (hE.2.2.1 (.castable xIAE xIAE) (by decide))) (vx_c (va_Nw.use rfl (hDW _ (List.mem_of_getElem? (i := 0) rfl))) (vx_c (va_Nw.use rfl (hDW _ (List.mem_of_getElem? (i := 1) rfl))) (vx_c (va_Nw.use rfl (hDW _ (List.mem_of_getElem? (i := 2) rfl))) vx_n))))) gx_xIAE hE.2.2.2.2.1 hE.2.2.2.2.2.1 hS (hl.1.trans hml.symm) dX2_control_10 dX2_control_13 dX2_control_14 dX2_control_16 dX2_control_19 (fun x h => (htb x h).elim) (Nat.le_of_ble_eq_true rfl) (Nat.le_of_ble_eq_true rfl) (Nat.le_of_ble_eq_true rfl) (Nat.le_of_ble_eq_true rfl) hlocks (fun t9 ha h1 h2 => ⟨(), trivial, ⟨1, hw, ⟨rfl, rfl⟩, hP.kept (fun k q hk => h2 q.1 (hP k q hk).lt)⟩, ⟨Nat.le_trans hS.1 h1, fun q g1 g2 => (h2 q (Nat.lt_of_lt_of_le g1 hS.1)).trans (hS.2.1 q g1 g2)⟩⟩) hS.2.2 (Nat.le_of_ble_eq_true rfl) (Nat.le_of_ble_eq_true rfl)
  · refine lv_iload_n hx hb dX2_control_4 rfl (lv_at hl 1 rfl) ?_
    refine lv_ldc (v := 65535) hx hb hown w_3 dX2_control_5 ?_
    refine lv_icmp_le (tgt := 20) hx hb dX2_control_7 (by decide) (fun c_2 => ?_) (fun c_2 => ?_)
    · refine lv_aload_n hx hb dX2_control_20 rfl (lv_at hl 0 rfl) ?_
      refine lv_iload_n hx hb dX2_control_21 rfl (lv_at hl 1 rfl) ?_
      refine va_put (v := .int wd) (ty := .int) (C := RX2) (T := TX2) (N := 7) hx hb hts in_X2 tyX2 tyX2_ok nmX2 hown hK hP hD hS 0 rfl rfl 2 (by decide) w_4 (fun _ h9 => h9) rfl (tyX2_ok 2 (by decide)) rfl rfl (Nat.le_of_ble_eq_true rfl) dX2_control_22 (fun H locs hP hD hS => ?_)
      have hP : va_P D vwCl (cRS h q1 q2 cA cB tf ff wd td an qb pa) H := hP
      have hD : va_D A (cRS h q1 q2 cA cB tf ff wd td an qb pa) := hD
      refine W.widen (k := 1) (n := 6) (Nat.le_of_ble_eq_true rfl) (Nat.le_of_ble_eq_true rfl) ?_
      have hw : R_control cw wd = (0, wd) := by unfold R_control; rw [if_neg c_1, if_pos c_2]; try rfl
      exact vx_ret (W.vret hx hb hr (fun t9 ht hW => ⟨⟨(), rfl, trivial, ⟨wd, hw, by rw [ht]; exact hP, hD⟩⟩, hS.F ht⟩) hS.2.2 dX2_control_25)
    · obtain ⟨sa9, hst9⟩ := hE.2.2.2.1 _ (List.mem_of_getElem? (i := 2) rfl)
      have hw : R_control cw wd = (1, cw) := by unfold R_control; rw [if_neg c_1, if_neg c_2]; try rfl
      exact vx_throwS hx hb hl9 (names := xNm) hown gf_xIAE gf_Nm w_1 w_2 hst9 (vx_hat (B := .castable xIAE xIAE :: decW) (fun w h => hts w (List.mem_cons_of_mem _ (List.mem_append_right _ h))) gb_xIAE (vx_c (va_Nw.use rfl (hE.2.2.1 (.castable xIAE xIAE) (by decide))) (vx_c (va_Nw.use rfl (hDW _ (List.mem_of_getElem? (i := 0) rfl))) (vx_c (va_Nw.use rfl (hDW _ (List.mem_of_getElem? (i := 1) rfl))) (vx_c (va_Nw.use rfl (hDW _ (List.mem_of_getElem? (i := 2) rfl))) vx_n))))) gx_xIAE hE.2.2.2.2.1 hE.2.2.2.2.2.1 hS (hl.1.trans hml.symm) dX2_control_10 dX2_control_13 dX2_control_14 dX2_control_16 dX2_control_19 (fun x h => (htb x h).elim) (Nat.le_of_ble_eq_true rfl) (Nat.le_of_ble_eq_true rfl) (Nat.le_of_ble_eq_true rfl) (Nat.le_of_ble_eq_true rfl) hlocks (fun t9 ha h1 h2 => ⟨(), trivial, ⟨1, hw, ⟨rfl, rfl⟩, hP.kept (fun k q hk => h2 q.1 (hP k q hk).lt)⟩, ⟨Nat.le_trans hS.1 h1, fun q g1 g2 => (h2 q (Nat.lt_of_lt_of_le g1 hS.1)).trans (hS.2.1 q g1 g2)⟩⟩) hS.2.2 (Nat.le_of_ble_eq_true rfl) (Nat.le_of_ble_eq_true rfl)
def R_set (tf : Nat → Int32) (ff : Nat → Int64) (rg : Int32) (tp : Int32) (hi : Int32) (lw : Int32) : Int32 × (Nat → Int32) × (Nat → Int64) :=
  if R_need rg = true then (if tp < 0 then (2, tf, ff)
    else if tp ≤ 65535 then (tup2 ((R_write tf ff rg tp ((jlshl ((hi).toInt64) 32) ||| (((lw).toInt64) &&& 4294967295)))) (fun otf_5 off_6 =>
        (0, otf_5, off_6)))
    else (2, tf, ff))
  else (1, tf, ff)
theorem kS_X2_set : yX2_set.cls ≠ "java/lang/invoke/MethodHandle" ∧ yX2_set.cls ≠ "java/lang/invoke/VarHandle" ∧ (parseMethodDescriptor yX2_set.desc).map (fun d => d.parameters.length) = some 4 := by decide +kernel
theorem kV_X2_set : yX2_set.cls = RX2 ∧ yX2_set.cls ≠ "java/lang/invoke/MethodHandle" ∧ yX2_set.cls ≠ "java/lang/invoke/VarHandle" ∧ (parseMethodDescriptor yX2_set.desc).map (fun d => d.parameters.length) = some 4 := ⟨rfl, kS_X2_set⟩
set_option maxHeartbeats 4000000 in
set_option maxRecDepth 100000 in
theorem c_X2_set (l : Launch) (hl9 : l.stackTraces = false) (D : va_G) (ad : Nat → Nat) (h : Nat) (q1 : Nat) (q2 : Nat) (cA : ClassId) (cB : ClassId) (tf : Nat → Int32) (ff : Nat → Int64) (cw : Int32) (td : Int32) (an : Bool) (qb : Int32) (pa : Bool) (rg : Int32) (tp : Int32) (hi : Int32) (lw : Int32) (sz : Nat) : vx_Met l yX2_set wsX2_set ({ frames := 7, cells := 2, slots := 12, locals := 110 } : Room) (va_Pc [.ref h, .int rg, .int tp, .int hi, .int lw] (TXB (MRB D ad h q1 q2 (tRS cA cB) (cRS h q1 q2 cA cB tf ff cw td an qb pa) [] sz))) (va_Qv (fun (_ : Unit) => True) (fun _ t => ∃ (w_tf : Nat → Int32) (w_ff : Nat → Int64), R_set tf ff rg tp hi lw = (0, w_tf, w_ff) ∧ va_P D vwCl (cRS h q1 q2 cA cB w_tf w_ff cw td an qb pa) t.heap ∧ va_D (va_A (cRS h q1 q2 cA cB tf ff cw td an qb pa) sz) (cRS h q1 q2 cA cB w_tf w_ff cw td an qb pa)) (va_A (cRS h q1 q2 cA cB tf ff cw td an qb pa) sz)) (vx_X (fun _ : Unit => True) (fun E _ t => ∃ k : Int32, R_set tf ff rg tp hi lw = (k, tf, ff) ∧ ((E = xIOB ∧ k = 1) ∨ (E = xIAE ∧ k = 2)) ∧ va_P D vwCl (cRS h q1 q2 cA cB tf ff cw td an qb pa) t.heap) (va_A (cRS h q1 q2 cA cB tf ff cw td an qb pa) sz)) 2 12 (va_A (cRS h q1 q2 cA cB tf ff cw td an qb pa) sz) := by
  refine vx_ofW (cc := cX2_set) (maxL := 5) (ret := none) (by decide) rfl ?_
  intro p e s m args below meth c s₁ B hml htb hv
  obtain ⟨rfl, ⟨hsz, hP, hK, hD0, hR0, hRp, hE⟩, hDW⟩ := hv
  have hx := B.exec
  have hb := B.bytes
  have hr := B.returns
  have hts := atoms_spec (ws := wsX2_set) B.pre
  have hown : s.vm.findClass RX2 = some m.cls := findClass_of_methodNamed B.named
  have hlocks := B.notSynchronized
  have w_1 := hts (.classLink RX2 35 xIAE) (by decide +kernel)
  have w_2 := hts (.initialized xIAE) (by decide +kernel)
  have w_3 := hts (.constant RX2 34 (65535)) (by decide +kernel)
  have w_4 := hts (.classLink RX2 48 RX1) (by decide +kernel)
  have w_5 := hts (.instantiable RX1 2) (by decide +kernel)
  have w_6 := hts (.initialized RX1) (by decide +kernel)
  have in_X1 : ∀ w ∈ wsX10, w ∈ wsX2_set := by decide +kernel
  have w_8 := hts (.constantLong RX2 50 (4294967295)) (by decide +kernel)
  have w_9 := hts (.instanceMethod yX1_init) (by decide +kernel)
  subst hsz
  have hD := hD0.self (sz := s.heap.size)
  have hRA := rs_A hR0 hRp (e1 := .inr (1, [.ref q1, .ref q2, .int cw, .int td, .int (bI an), .int qb, .int (bI pa)])) (e2 := .inl (cA, 8, .inl tf)) (e3 := .inl (cB, 8, .inr (.inl ff)))
  generalize hAe : va_A (cRS h q1 q2 cA cB tf ff cw td an qb pa) s.heap.size = A at hD hE hRA ⊢
  have hA : ∀ q : Nat, s.heap.size ≤ q → A q := fun q h => by rw [← hAe]; exact Or.inr h
  have hS : va_S A s.heap s.heap [] := va_S.rf
  have hP : va_P D vwCl (cRS h q1 q2 cA cB tf ff cw td an qb pa) s.heap := hP
  have hl := lv_entry ([.ref h, .int rg, .int tp, .int hi, .int lw]) (n := 5) (Nat.le_of_ble_eq_true rfl)
  rw [lg_entry_eq]
  generalize (lg_sl ([.ref h, .int rg, .int tp, .int hi, .int lw]) ++ List.replicate (5 - (lg_sl ([.ref h, .int rg, .int tp, .int hi, .int lw])).length) Slot.unset).toArray = ls at hl ⊢
  have hl : lv_has ls 5 [(0, .ref h), (1, .int rg), (2, .int tp), (3, .int hi), (4, .int lw)] := hl
  refine lv_iload_n hx hb dX2_set_0 rfl (lv_at hl 1 rfl) ?_
  have hFc : ∀ q, va_A [] s.heap.size q → A q := va_free (wc := []) hD hS hA [] rfl
  refine vx_callv (vx_runS (As := [.int rg]) (rest := []) ⟨hx, hb, hml, hown, hts⟩ (c_X2_needRegister l hl9 D ad rg s.heap.size) (va_cwS 1 hts gX2_set_X2_needRegister rfl rfl rfl kS_X2_needRegister ⟨Nat.le_of_ble_eq_true rfl, Nat.le_of_ble_eq_true rfl⟩) ⟨TXB.blind SCB.blind, TXB.pre (SCB.pre hK vP_nil hE hS hFc) hDW⟩ rfl rfl hl.1 rfl (lv_room (Nat.le_of_ble_eq_true rfl)) dX2_set_1 ⟨Nat.le_of_ble_eq_true rfl, Nat.le_of_ble_eq_true rfl⟩) hS (fun q _ h9 => hFc q h9) hFc (fun q _ h9 => hFc q h9) (fun E9 ce9 q9 u9 t9 H9 locs9 ht hvm c_1 hB hz1 hk1 hS9 hce9 hcv9 hcl9 => ?_) (fun u9 t9 H locs ht hvm c_1 hB hz1 hk1 hS => ?_)
  · have hw : R_set tf ff rg tp hi lw = (1, tf, ff) := by unfold R_set; rw [if_neg c_1]; try rfl
    exact vx_out (fun x h => (htb x h).elim) hlocks hce9 hcv9 hcl9 (fun t9 ht ha => ⟨(), trivial, ⟨1, hw, (Or.inl ⟨hB, rfl⟩), by rw [ht]; exact ro_make hP hk1⟩, hS9.F ht⟩) hS9.2.2 (Nat.le_of_ble_eq_true rfl) (Nat.le_of_ble_eq_true rfl)
  · have hP : va_P D vwCl (cRS h q1 q2 cA cB tf ff cw td an qb pa) H := ro_make hP hk1
    refine lv_iload_n hx hb dX2_set_4 rfl (lv_at hl 2 rfl) ?_
    refine lv_if_lt (tgt := 14) hx hb dX2_set_5 (by decide) (fun c_2 => ?_) (fun c_2 => ?_)
    · obtain ⟨sa9, hst9⟩ := hE.2.2.2.1 _ (List.mem_of_getElem? (i := 3) rfl)
      have hw : R_set tf ff rg tp hi lw = (2, tf, ff) := by unfold R_set; rw [if_pos c_1, if_pos c_2]; try rfl
      exact vx_throwS hx hb hl9 (names := xNm) hown gf_xIAE gf_Nm w_1 w_2 hst9 (vx_hat (B := .castable xIAE xIAE :: decW) (fun w h => hts w (List.mem_cons_of_mem _ (List.mem_append_left _ (List.mem_append_right _ h)))) gb_xIAE (vx_c (va_Nw.use rfl (hE.2.2.1 (.castable xIAE xIAE) (by decide))) (vx_c (va_Nw.use rfl (hDW _ (List.mem_of_getElem? (i := 0) rfl))) (vx_c (va_Nw.use rfl (hDW _ (List.mem_of_getElem? (i := 1) rfl))) (vx_c (va_Nw.use rfl (hDW _ (List.mem_of_getElem? (i := 2) rfl))) vx_n))))) gx_xIAE hE.2.2.2.2.1 hE.2.2.2.2.2.1 hS (hl.1.trans hml.symm) dX2_set_14 dX2_set_17 dX2_set_18 dX2_set_20 dX2_set_23 (fun x h => (htb x h).elim) (Nat.le_of_ble_eq_true rfl) (Nat.le_of_ble_eq_true rfl) (Nat.le_of_ble_eq_true rfl) (Nat.le_of_ble_eq_true rfl) hlocks (fun t9 ha h1 h2 => ⟨(), trivial, ⟨2, hw, (Or.inr ⟨rfl, rfl⟩), hP.kept (fun k q hk => h2 q.1 (hP k q hk).lt)⟩, ⟨Nat.le_trans hS.1 h1, fun q g1 g2 => (h2 q (Nat.lt_of_lt_of_le g1 hS.1)).trans (hS.2.1 q g1 g2)⟩⟩) hS.2.2 (Nat.le_of_ble_eq_true rfl) (Nat.le_of_ble_eq_true rfl)
    · refine lv_iload_n hx hb dX2_set_8 rfl (lv_at hl 2 rfl) ?_
      refine lv_ldc (v := 65535) hx hb hown w_3 dX2_set_9 ?_
      refine lv_icmp_le (tgt := 24) hx hb dX2_set_11 (by decide) (fun c_3 => ?_) (fun c_3 => ?_)
      · refine lv_aload_n hx hb dX2_set_24 rfl (lv_at hl 0 rfl) ?_
        refine lv_iload_n hx hb dX2_set_25 rfl (lv_at hl 1 rfl) ?_
        refine va_new (ci := 0) (fs := [.int 0, .long 0]) (C := RX1) (T := TX1) (N := 2) hx hb hts in_X1 tyX1 tyX1_ok hown w_4 w_5 w_6 hK hP hD hS hA rfl (fun j hj => by rcases (show j = 0 ∨ j = 1 by omega) with rfl | rfl <;> rfl) (Nat.le_of_ble_eq_true rfl) (Nat.le_of_ble_eq_true rfl) dX2_set_26 (fun q_4 H hP4 hD4 hS => ?_)
        have hP : va_P D vwCl (cRS h q1 q2 cA cB tf ff cw td an qb pa) H := hP4.sub [0, 1, 2] rfl
        have hD : va_D A (cRS h q1 q2 cA cB tf ff cw td an qb pa) := hD4.sub [0, 1, 2] (by decide) rfl
        have nx_q_4 : ap3 q_4 h q1 q2 := ap_D hD4
        have hx_q_4 : va_P D vwCl [cReal q_4 0 0] H := hP4.sub [3] rfl
        have hd_q_4 : va_D A [cReal q_4 0 0] := hD4.sub [3] (by decide) rfl
        refine lv_dup hx hb dX2_set_29 rfl ?_
        refine lv_iload_n hx hb dX2_set_30 rfl (lv_at hl 2 rfl) ?_
        refine lv_iload_n hx hb dX2_set_31 rfl (lv_at hl 3 rfl) ?_
        refine lv_i2l (v := (hi).toInt64) hx hb dX2_set_32 rfl ?_
        refine lv_bipush (v := 32) hx hb dX2_set_33 (by decide) ?_
        refine lv_lshl (v := (jlshl ((hi).toInt64) 32)) hx hb dX2_set_35 rfl ?_
        refine lv_iload hx hb dX2_set_36 (lv_at hl 4 rfl) ?_
        refine lv_i2l (v := (lw).toInt64) hx hb dX2_set_38 rfl ?_
        refine lv_ldc2 (v := 4294967295) hx hb hown w_8 dX2_set_39 ?_
        refine lv_land hx hb dX2_set_42 ?_
        refine lv_lor hx hb dX2_set_43 ?_
        have hFc := va_free (wc := [cReal q_4 0 0]) hd_q_4 hS hA [0] rfl
        refine va_callv (va_runIN (As := [.int tp, .long ((jlshl ((hi).toInt64) 32) ||| (((lw).toInt64) &&& 4294967295))]) (rest := [.ref q_4, .int rg, .ref h]) ⟨hx, hb, hml, hown, hts⟩ (c_X1_init l D q_4 tp ((jlshl ((hi).toInt64) 32) ||| (((lw).toInt64) &&& 4294967295)) H.size) ⟨va_cnB 2 hts gX2_set_X1_init_n52 rfl rfl rfl (hE.2.1 _ (List.mem_of_getElem? (i := 7) rfl)) w_6 kS_X1_init ⟨Nat.le_of_ble_eq_true rfl, Nat.le_of_ble_eq_true rfl⟩, rfl, w_9⟩ ⟨INB.blind, INB.pre (hK.sub [] rfl) hx_q_4 hd_q_4⟩ rfl rfl hl.1 rfl (lv_room (Nat.le_of_ble_eq_true rfl)) dX2_set_44 ⟨Nat.le_of_ble_eq_true rfl, Nat.le_of_ble_eq_true rfl⟩) hS (fun q _ h9 => hFc q h9) hFc (fun u9 t9 H locs ht hvm hw hB hz1 hk1 hS => ?_)
        have hx_q_4 : va_P D vwCl [cReal q_4 tp ((jlshl ((hi).toInt64) 32) ||| (((lw).toInt64) &&& 4294967295))] H := by rw [← ht]; exact hB
        have hP : va_P D vwCl (cRS h q1 q2 cA cB tf ff cw td an qb pa) H := ro_init hP nx_q_4 hk1
        have hFc := va_free (wc := cRS h q1 q2 cA cB tf ff cw td an qb pa) hD hS hA [0, 1, 2] rfl
        refine va_callv (va_runV (As := [.int rg, .ref q_4]) (rest := []) ⟨hx, hb, hml, hown, hts⟩ (c_X2_write l D ad h q1 q2 cA cB tf ff cw td an qb pa q_4 tp ((jlshl ((hi).toInt64) 32) ||| (((lw).toInt64) &&& 4294967295)) rg H.size (R_need_in c_1)) (cwV 2 hts gX2_set_X2_write rfl rfl rfl kV_X2_write ⟨Nat.le_of_ble_eq_true rfl, Nat.le_of_ble_eq_true rfl⟩) ⟨MRB.blind, va_recv hK hP (ci := 1) (q0 := 0) rfl rfl, MRB.pre hK hP hD (vP_one hx_q_4 vP_nil) (ap_one nx_q_4 ap_nil) hE hS hFc⟩ rfl rfl hl.1 rfl (lv_room (Nat.le_of_ble_eq_true rfl)) dX2_set_47 ⟨Nat.le_of_ble_eq_true rfl, Nat.le_of_ble_eq_true rfl⟩) hS (fun q _ h9 => hFc q h9) hFc (fun u9 t9 H locs ht hvm hw hB hz1 hk1 hS => ?_)
        obtain ⟨otf_5, off_6, e_7, hP, hD9⟩ := hB
        rw [ht] at hP
        have hD : va_D A (cRS h q1 q2 cA cB otf_5 off_6 cw td an qb pa) := hD9.weaken (fun _ _ _ h => hFc _ h)
        have hx_q_4 := ro_keep hx_q_4 nx_q_4 hk1
        refine W.widen (k := 2) (n := 12) (Nat.le_of_ble_eq_true rfl) (Nat.le_of_ble_eq_true rfl) ?_
        have hw : R_set tf ff rg tp hi lw = (0, otf_5, off_6) := by unfold R_set; rw [if_pos c_1, if_neg c_2, if_pos c_3, tup2_e e_7]; try rfl
        exact vx_ret (W.vret hx hb hr (fun t9 ht hW => ⟨⟨(), rfl, trivial, ⟨otf_5, off_6, hw, by rw [ht]; exact hP, hD⟩⟩, hS.F ht⟩) hS.2.2 dX2_set_50)
      · obtain ⟨sa9, hst9⟩ := hE.2.2.2.1 _ (List.mem_of_getElem? (i := 3) rfl)
        have hw : R_set tf ff rg tp hi lw = (2, tf, ff) := by unfold R_set; rw [if_pos c_1, if_neg c_2, if_neg c_3]; try rfl
        exact vx_throwS hx hb hl9 (names := xNm) hown gf_xIAE gf_Nm w_1 w_2 hst9 (vx_hat (B := .castable xIAE xIAE :: decW) (fun w h => hts w (List.mem_cons_of_mem _ (List.mem_append_left _ (List.mem_append_right _ h)))) gb_xIAE (vx_c (va_Nw.use rfl (hE.2.2.1 (.castable xIAE xIAE) (by decide))) (vx_c (va_Nw.use rfl (hDW _ (List.mem_of_getElem? (i := 0) rfl))) (vx_c (va_Nw.use rfl (hDW _ (List.mem_of_getElem? (i := 1) rfl))) (vx_c (va_Nw.use rfl (hDW _ (List.mem_of_getElem? (i := 2) rfl))) vx_n))))) gx_xIAE hE.2.2.2.2.1 hE.2.2.2.2.2.1 hS (hl.1.trans hml.symm) dX2_set_14 dX2_set_17 dX2_set_18 dX2_set_20 dX2_set_23 (fun x h => (htb x h).elim) (Nat.le_of_ble_eq_true rfl) (Nat.le_of_ble_eq_true rfl) (Nat.le_of_ble_eq_true rfl) (Nat.le_of_ble_eq_true rfl) hlocks (fun t9 ha h1 h2 => ⟨(), trivial, ⟨2, hw, (Or.inr ⟨rfl, rfl⟩), hP.kept (fun k q hk => h2 q.1 (hP k q hk).lt)⟩, ⟨Nat.le_trans hS.1 h1, fun q g1 g2 => (h2 q (Nat.lt_of_lt_of_le g1 hS.1)).trans (hS.2.1 q g1 g2)⟩⟩) hS.2.2 (Nat.le_of_ble_eq_true rfl) (Nat.le_of_ble_eq_true rfl)
def R_part (tf : Nat → Int32) (ff : Nat → Int64) (rg : Int32) (wh : Int32) : Int32 × Int32 :=
  if R_need rg = true then (if wh = 0 then ((tf rg.toNatClampNeg), 0)
    else if wh = 1 then (((jlushr (ff rg.toNatClampNeg) 32)).toInt32, 0)
    else if wh = 2 then (((ff rg.toNatClampNeg)).toInt32, 0)
    else (0, 2))
  else (0, 1)
theorem kS_X2_part : yX2_part.cls ≠ "java/lang/invoke/MethodHandle" ∧ yX2_part.cls ≠ "java/lang/invoke/VarHandle" ∧ (parseMethodDescriptor yX2_part.desc).map (fun d => d.parameters.length) = some 2 := by decide +kernel
theorem kV_X2_part : yX2_part.cls = RX2 ∧ yX2_part.cls ≠ "java/lang/invoke/MethodHandle" ∧ yX2_part.cls ≠ "java/lang/invoke/VarHandle" ∧ (parseMethodDescriptor yX2_part.desc).map (fun d => d.parameters.length) = some 2 := ⟨rfl, kS_X2_part⟩
set_option maxHeartbeats 4000000 in
set_option maxRecDepth 100000 in
theorem c_X2_part (l : Launch) (hl9 : l.stackTraces = false) (D : va_G) (ad : Nat → Nat) (h : Nat) (q1 : Nat) (q2 : Nat) (cA : ClassId) (cB : ClassId) (tf : Nat → Int32) (ff : Nat → Int64) (cw : Int32) (td : Int32) (an : Bool) (qb : Int32) (pa : Bool) (rg : Int32) (wh : Int32) (sz : Nat) : vx_Met l yX2_part wsX2_part ({ frames := 7, cells := 2, slots := 12, locals := 110 } : Room) (va_Pc [.ref h, .int rg, .int wh] (TXB (MRB D ad h q1 q2 (tRS cA cB) (cRS h q1 q2 cA cB tf ff cw td an qb pa) [] sz))) (va_Qi (fun (r u : Int32) => r = u) (fun u t => R_part tf ff rg wh = (u, 0) ∧ va_P D vwCl (cRS h q1 q2 cA cB tf ff cw td an qb pa) t.heap ∧ va_D (va_A (cRS h q1 q2 cA cB tf ff cw td an qb pa) sz) (cRS h q1 q2 cA cB tf ff cw td an qb pa)) (va_A (cRS h q1 q2 cA cB tf ff cw td an qb pa) sz)) (vx_X (fun _ : Unit => True) (fun E _ t => ∃ k : Int32, R_part tf ff rg wh = (0, k) ∧ ((E = xIOB ∧ k = 1) ∨ (E = xIAE ∧ k = 2)) ∧ va_P D vwCl (cRS h q1 q2 cA cB tf ff cw td an qb pa) t.heap) (va_A (cRS h q1 q2 cA cB tf ff cw td an qb pa) sz)) 2 12 (va_A (cRS h q1 q2 cA cB tf ff cw td an qb pa) sz) := by
  refine vx_ofW (cc := cX2_part) (maxL := 3) (ret := (some .int)) (by decide) rfl ?_
  intro p e s m args below meth c s₁ B hml htb hv
  obtain ⟨rfl, ⟨hsz, hP, hK, hD0, hR0, hRp, hE⟩, hDW⟩ := hv
  have hx := B.exec
  have hb := B.bytes
  have hr := B.returns
  have hts := atoms_spec (ws := wsX2_part) B.pre
  have hown : s.vm.findClass RX2 = some m.cls := findClass_of_methodNamed B.named
  have hlocks := B.notSynchronized
  have w_1 := hts (.fieldLink RX2 9 "RealSteps" "tops" "[I") (by decide +kernel)
  have in_X2 : ∀ w ∈ wsX20, w ∈ wsX2_part := by decide +kernel
  have w_3 := hts (.fieldLink RX2 13 "RealSteps" "fractions" "[J") (by decide +kernel)
  have w_4 := hts (.classLink RX2 35 xIAE) (by decide +kernel)
  have w_5 := hts (.initialized xIAE) (by decide +kernel)
  subst hsz
  have hD := hD0.self (sz := s.heap.size)
  have hRA := rs_A hR0 hRp (e1 := .inr (1, [.ref q1, .ref q2, .int cw, .int td, .int (bI an), .int qb, .int (bI pa)])) (e2 := .inl (cA, 8, .inl tf)) (e3 := .inl (cB, 8, .inr (.inl ff)))
  generalize hAe : va_A (cRS h q1 q2 cA cB tf ff cw td an qb pa) s.heap.size = A at hD hE hRA ⊢
  have hA : ∀ q : Nat, s.heap.size ≤ q → A q := fun q h => by rw [← hAe]; exact Or.inr h
  have hS : va_S A s.heap s.heap [] := va_S.rf
  have hP : va_P D vwCl (cRS h q1 q2 cA cB tf ff cw td an qb pa) s.heap := hP
  have hl := lv_entry ([.ref h, .int rg, .int wh]) (n := 3) (Nat.le_of_ble_eq_true rfl)
  rw [lg_entry_eq]
  generalize (lg_sl ([.ref h, .int rg, .int wh]) ++ List.replicate (3 - (lg_sl ([.ref h, .int rg, .int wh])).length) Slot.unset).toArray = ls at hl ⊢
  have hl : lv_has ls 3 [(0, .ref h), (1, .int rg), (2, .int wh)] := hl
  refine lv_iload_n hx hb dX2_part_0 rfl (lv_at hl 1 rfl) ?_
  have hFc : ∀ q, va_A [] s.heap.size q → A q := va_free (wc := []) hD hS hA [] rfl
  refine vx_callv (vx_runS (As := [.int rg]) (rest := []) ⟨hx, hb, hml, hown, hts⟩ (c_X2_needRegister l hl9 D ad rg s.heap.size) (va_cwS 1 hts gX2_part_X2_needRegister rfl rfl rfl kS_X2_needRegister ⟨Nat.le_of_ble_eq_true rfl, Nat.le_of_ble_eq_true rfl⟩) ⟨TXB.blind SCB.blind, TXB.pre (SCB.pre hK vP_nil hE hS hFc) hDW⟩ rfl rfl hl.1 rfl (lv_room (Nat.le_of_ble_eq_true rfl)) dX2_part_1 ⟨Nat.le_of_ble_eq_true rfl, Nat.le_of_ble_eq_true rfl⟩) hS (fun q _ h9 => hFc q h9) hFc (fun q _ h9 => hFc q h9) (fun E9 ce9 q9 u9 t9 H9 locs9 ht hvm c_1 hB hz1 hk1 hS9 hce9 hcv9 hcl9 => ?_) (fun u9 t9 H locs ht hvm c_1 hB hz1 hk1 hS => ?_)
  · have hw : R_part tf ff rg wh = (0, 1) := by unfold R_part; rw [if_neg c_1]; try rfl
    exact vx_out (fun x h => (htb x h).elim) hlocks hce9 hcv9 hcl9 (fun t9 ht ha => ⟨(), trivial, ⟨1, hw, (Or.inl ⟨hB, rfl⟩), by rw [ht]; exact ro_make hP hk1⟩, hS9.F ht⟩) hS9.2.2 (Nat.le_of_ble_eq_true rfl) (Nat.le_of_ble_eq_true rfl)
  · have hP : va_P D vwCl (cRS h q1 q2 cA cB tf ff cw td an qb pa) H := ro_make hP hk1
    refine lv_iload_n hx hb dX2_part_4 rfl (lv_at hl 2 rfl) ?_
    refine (dite (wh = 0) (fun c_2 => ?_) (fun c_2 => ?_))
    · refine lv_tableIn (tgt := 32) hx hb dX2_part_5 (by rw [c_2]; decide) (by rw [c_2]; decide) (by rw [c_2]; rfl) (by decide) ?_
      refine lv_aload_n hx hb dX2_part_32 rfl (lv_at hl 0 rfl) ?_
      refine va_get (v := .ref q1) (C := RX2) (T := TX2) (N := 7) hx hb hts in_X2 hown hK hP 0 rfl rfl 0 (by decide) w_1 (fun _ h9 => h9) rfl dX2_part_33 ?_
      refine lv_iload_n hx hb dX2_part_36 rfl (lv_at hl 1 rfl) ?_
      refine va_iald hx hb hK hP 1 0 rfl rfl (R_need_in c_1) dX2_part_37 ?_
      refine W.widen (k := 2) (n := 12) (Nat.le_of_ble_eq_true rfl) (Nat.le_of_ble_eq_true rfl) ?_
      have hw : R_part tf ff rg wh = ((tf rg.toNatClampNeg), 0) := by unfold R_part; rw [if_pos c_1, if_pos c_2]; try rfl
      exact vx_ret (W.iret hx hb hr (fun t9 ht hW => ⟨⟨_, (tf rg.toNatClampNeg), rfl, rfl, ⟨hw, by rw [ht]; exact hP, hD⟩⟩, hS.F ht⟩) hS.2.2 dX2_part_38)
    · refine (dite (wh = 1) (fun c_3 => ?_) (fun c_3 => ?_))
      · refine lv_tableIn (tgt := 39) hx hb dX2_part_5 (by rw [c_3]; decide) (by rw [c_3]; decide) (by rw [c_3]; rfl) (by decide) ?_
        refine lv_aload_n hx hb dX2_part_39 rfl (lv_at hl 0 rfl) ?_
        refine va_get (v := .ref q2) (C := RX2) (T := TX2) (N := 7) hx hb hts in_X2 hown hK hP 0 rfl rfl 1 (by decide) w_3 (fun _ h9 => h9) rfl dX2_part_40 ?_
        refine lv_iload_n hx hb dX2_part_43 rfl (lv_at hl 1 rfl) ?_
        refine va_lald hx hb hK hP 2 1 rfl rfl (R_need_in c_1) dX2_part_44 ?_
        refine lv_bipush (v := 32) hx hb dX2_part_45 (by decide) ?_
        refine lv_lushr (v := (jlushr (ff rg.toNatClampNeg) 32)) hx hb dX2_part_47 rfl ?_
        refine lv_l2i (v := ((jlushr (ff rg.toNatClampNeg) 32)).toInt32) hx hb dX2_part_48 rfl ?_
        refine W.widen (k := 2) (n := 12) (Nat.le_of_ble_eq_true rfl) (Nat.le_of_ble_eq_true rfl) ?_
        have hw : R_part tf ff rg wh = (((jlushr (ff rg.toNatClampNeg) 32)).toInt32, 0) := by unfold R_part; rw [if_pos c_1, if_neg c_2, if_pos c_3]; try rfl
        exact vx_ret (W.iret hx hb hr (fun t9 ht hW => ⟨⟨_, ((jlushr (ff rg.toNatClampNeg) 32)).toInt32, rfl, rfl, ⟨hw, by rw [ht]; exact hP, hD⟩⟩, hS.F ht⟩) hS.2.2 dX2_part_49)
      · refine (dite (wh = 2) (fun c_4 => ?_) (fun c_4 => ?_))
        · refine lv_tableIn (tgt := 50) hx hb dX2_part_5 (by rw [c_4]; decide) (by rw [c_4]; decide) (by rw [c_4]; rfl) (by decide) ?_
          refine lv_aload_n hx hb dX2_part_50 rfl (lv_at hl 0 rfl) ?_
          refine va_get (v := .ref q2) (C := RX2) (T := TX2) (N := 7) hx hb hts in_X2 hown hK hP 0 rfl rfl 1 (by decide) w_3 (fun _ h9 => h9) rfl dX2_part_51 ?_
          refine lv_iload_n hx hb dX2_part_54 rfl (lv_at hl 1 rfl) ?_
          refine va_lald hx hb hK hP 2 1 rfl rfl (R_need_in c_1) dX2_part_55 ?_
          refine lv_l2i (v := ((ff rg.toNatClampNeg)).toInt32) hx hb dX2_part_56 rfl ?_
          refine W.widen (k := 2) (n := 12) (Nat.le_of_ble_eq_true rfl) (Nat.le_of_ble_eq_true rfl) ?_
          have hw : R_part tf ff rg wh = (((ff rg.toNatClampNeg)).toInt32, 0) := by unfold R_part; rw [if_pos c_1, if_neg c_2, if_neg c_3, if_pos c_4]; try rfl
          exact vx_ret (W.iret hx hb hr (fun t9 ht hW => ⟨⟨_, ((ff rg.toNatClampNeg)).toInt32, rfl, rfl, ⟨hw, by rw [ht]; exact hP, hD⟩⟩, hS.F ht⟩) hS.2.2 dX2_part_57)
        · refine lv_tableOut (tgt := 58) hx hb dX2_part_5 (sw_out_0_2 c_2 c_3 c_4) (by decide) ?_
          obtain ⟨sa9, hst9⟩ := hE.2.2.2.1 _ (List.mem_of_getElem? (i := 4) rfl)
          have hw : R_part tf ff rg wh = (0, 2) := by unfold R_part; rw [if_pos c_1, if_neg c_2, if_neg c_3, if_neg c_4]; try rfl
          exact vx_throwS hx hb hl9 (names := xNm) hown gf_xIAE gf_Nm w_4 w_5 hst9 (vx_hat (B := .castable xIAE xIAE :: decW) (fun w h => hts w (List.mem_cons_of_mem _ (List.mem_append_left _ (List.mem_append_right _ h)))) gb_xIAE (vx_c (va_Nw.use rfl (hE.2.2.1 (.castable xIAE xIAE) (by decide))) (vx_c (va_Nw.use rfl (hDW _ (List.mem_of_getElem? (i := 0) rfl))) (vx_c (va_Nw.use rfl (hDW _ (List.mem_of_getElem? (i := 1) rfl))) (vx_c (va_Nw.use rfl (hDW _ (List.mem_of_getElem? (i := 2) rfl))) vx_n))))) gx_xIAE hE.2.2.2.2.1 hE.2.2.2.2.2.1 hS (hl.1.trans hml.symm) dX2_part_58 dX2_part_61 dX2_part_62 dX2_part_64 dX2_part_67 (fun x h => (htb x h).elim) (Nat.le_of_ble_eq_true rfl) (Nat.le_of_ble_eq_true rfl) (Nat.le_of_ble_eq_true rfl) (Nat.le_of_ble_eq_true rfl) hlocks (fun t9 ha h1 h2 => ⟨(), trivial, ⟨2, hw, (Or.inr ⟨rfl, rfl⟩), hP.kept (fun k q hk => h2 q.1 (hP k q hk).lt)⟩, ⟨Nat.le_trans hS.1 h1, fun q g1 g2 => (h2 q (Nat.lt_of_lt_of_le g1 hS.1)).trans (hS.2.1 q g1 g2)⟩⟩) hS.2.2 (Nat.le_of_ble_eq_true rfl) (Nat.le_of_ble_eq_true rfl)
def R_turn (tf : Nat → Int32) (rg : Int32) (aw : Bool) : Int32 × (Nat → Int32) :=
  if R_need rg = true then (0, (upd tf rg.toNatClampNeg (if bI aw = 0 then ((tf rg.toNatClampNeg) ^^^ 32768) else ((tf rg.toNatClampNeg) &&& (-32769)))))
  else (1, tf)
theorem kS_X2_turn : yX2_turn.cls ≠ "java/lang/invoke/MethodHandle" ∧ yX2_turn.cls ≠ "java/lang/invoke/VarHandle" ∧ (parseMethodDescriptor yX2_turn.desc).map (fun d => d.parameters.length) = some 2 := by decide +kernel
theorem kV_X2_turn : yX2_turn.cls = RX2 ∧ yX2_turn.cls ≠ "java/lang/invoke/MethodHandle" ∧ yX2_turn.cls ≠ "java/lang/invoke/VarHandle" ∧ (parseMethodDescriptor yX2_turn.desc).map (fun d => d.parameters.length) = some 2 := ⟨rfl, kS_X2_turn⟩
set_option maxHeartbeats 4000000 in
set_option maxRecDepth 100000 in
theorem c_X2_turn (l : Launch) (hl9 : l.stackTraces = false) (D : va_G) (ad : Nat → Nat) (h : Nat) (q1 : Nat) (q2 : Nat) (cA : ClassId) (cB : ClassId) (tf : Nat → Int32) (ff : Nat → Int64) (cw : Int32) (td : Int32) (an : Bool) (qb : Int32) (pa : Bool) (rg : Int32) (aw : Bool) (sz : Nat) : vx_Met l yX2_turn wsX2_turn ({ frames := 7, cells := 1, slots := 6, locals := 110 } : Room) (va_Pc [.ref h, .int rg, .int (bI aw)] (TXB (MRB D ad h q1 q2 (tRS cA cB) (cRS h q1 q2 cA cB tf ff cw td an qb pa) [] sz))) (va_Qv (fun (_ : Unit) => True) (fun _ t => ∃ (w_tf : Nat → Int32), R_turn tf rg aw = (0, w_tf) ∧ va_P D vwCl (cRS h q1 q2 cA cB w_tf ff cw td an qb pa) t.heap ∧ va_D (va_A (cRS h q1 q2 cA cB tf ff cw td an qb pa) sz) (cRS h q1 q2 cA cB w_tf ff cw td an qb pa)) (va_A (cRS h q1 q2 cA cB tf ff cw td an qb pa) sz)) (vx_X (fun _ : Unit => True) (fun E _ t => ∃ k : Int32, R_turn tf rg aw = (k, tf) ∧ (E = xIOB ∧ k = 1) ∧ va_P D vwCl (cRS h q1 q2 cA cB tf ff cw td an qb pa) t.heap) (va_A (cRS h q1 q2 cA cB tf ff cw td an qb pa) sz)) 1 6 (va_A (cRS h q1 q2 cA cB tf ff cw td an qb pa) sz) := by
  refine vx_ofW (cc := cX2_turn) (maxL := 3) (ret := none) (by decide) rfl ?_
  intro p e s m args below meth c s₁ B hml htb hv
  obtain ⟨rfl, ⟨hsz, hP, hK, hD0, hR0, hRp, hE⟩, hDW⟩ := hv
  have hx := B.exec
  have hb := B.bytes
  have hr := B.returns
  have hts := atoms_spec (ws := wsX2_turn) B.pre
  have hown : s.vm.findClass RX2 = some m.cls := findClass_of_methodNamed B.named
  have hlocks := B.notSynchronized
  have w_1 := hts (.fieldLink RX2 9 "RealSteps" "tops" "[I") (by decide +kernel)
  have in_X2 : ∀ w ∈ wsX20, w ∈ wsX2_turn := by decide +kernel
  have w_3 := hts (.constant RX2 62 (32768)) (by decide +kernel)
  have w_4 := hts (.constant RX2 61 (-32769)) (by decide +kernel)
  subst hsz
  have hD := hD0.self (sz := s.heap.size)
  have hRA := rs_A hR0 hRp (e1 := .inr (1, [.ref q1, .ref q2, .int cw, .int td, .int (bI an), .int qb, .int (bI pa)])) (e2 := .inl (cA, 8, .inl tf)) (e3 := .inl (cB, 8, .inr (.inl ff)))
  generalize hAe : va_A (cRS h q1 q2 cA cB tf ff cw td an qb pa) s.heap.size = A at hD hE hRA ⊢
  have hA : ∀ q : Nat, s.heap.size ≤ q → A q := fun q h => by rw [← hAe]; exact Or.inr h
  have hS : va_S A s.heap s.heap [] := va_S.rf
  have hP : va_P D vwCl (cRS h q1 q2 cA cB tf ff cw td an qb pa) s.heap := hP
  have hl := lv_entry ([.ref h, .int rg, .int (bI aw)]) (n := 3) (Nat.le_of_ble_eq_true rfl)
  rw [lg_entry_eq]
  generalize (lg_sl ([.ref h, .int rg, .int (bI aw)]) ++ List.replicate (3 - (lg_sl ([.ref h, .int rg, .int (bI aw)])).length) Slot.unset).toArray = ls at hl ⊢
  have hl : lv_has ls 3 [(0, .ref h), (1, .int rg), (2, .int (bI aw))] := hl
  refine lv_iload_n hx hb dX2_turn_0 rfl (lv_at hl 1 rfl) ?_
  have hFc : ∀ q, va_A [] s.heap.size q → A q := va_free (wc := []) hD hS hA [] rfl
  refine vx_callv (vx_runS (As := [.int rg]) (rest := []) ⟨hx, hb, hml, hown, hts⟩ (c_X2_needRegister l hl9 D ad rg s.heap.size) (va_cwS 1 hts gX2_turn_X2_needRegister rfl rfl rfl kS_X2_needRegister ⟨Nat.le_of_ble_eq_true rfl, Nat.le_of_ble_eq_true rfl⟩) ⟨TXB.blind SCB.blind, TXB.pre (SCB.pre hK vP_nil hE hS hFc) hDW⟩ rfl rfl hl.1 rfl (lv_room (Nat.le_of_ble_eq_true rfl)) dX2_turn_1 ⟨Nat.le_of_ble_eq_true rfl, Nat.le_of_ble_eq_true rfl⟩) hS (fun q _ h9 => hFc q h9) hFc (fun q _ h9 => hFc q h9) (fun E9 ce9 q9 u9 t9 H9 locs9 ht hvm c_1 hB hz1 hk1 hS9 hce9 hcv9 hcl9 => ?_) (fun u9 t9 H locs ht hvm c_1 hB hz1 hk1 hS => ?_)
  · have hw : R_turn tf rg aw = (1, tf) := by unfold R_turn; rw [if_neg c_1]; try rfl
    exact vx_out (fun x h => (htb x h).elim) hlocks hce9 hcv9 hcl9 (fun t9 ht ha => ⟨(), trivial, ⟨1, hw, ⟨hB, rfl⟩, by rw [ht]; exact ro_make hP hk1⟩, hS9.F ht⟩) hS9.2.2 (Nat.le_of_ble_eq_true rfl) (Nat.le_of_ble_eq_true rfl)
  · have hP : va_P D vwCl (cRS h q1 q2 cA cB tf ff cw td an qb pa) H := ro_make hP hk1
    refine lv_aload_n hx hb dX2_turn_4 rfl (lv_at hl 0 rfl) ?_
    refine va_get (v := .ref q1) (C := RX2) (T := TX2) (N := 7) hx hb hts in_X2 hown hK hP 0 rfl rfl 0 (by decide) w_1 (fun _ h9 => h9) rfl dX2_turn_5 ?_
    refine lv_iload_n hx hb dX2_turn_8 rfl (lv_at hl 1 rfl) ?_
    refine lv_iload_n hx hb dX2_turn_9 rfl (lv_at hl 2 rfl) ?_
    refine q_cut (v := (if bI aw = 0 then ((tf rg.toNatClampNeg) ^^^ 32768) else ((tf rg.toNatClampNeg) &&& (-32769)))) (pcJ := 34) (rest := [.int rg, .ref q1]) (fun J => ?_) ?_
    · refine lv_if_eq (tgt := 25) hx hb dX2_turn_10 (by decide) (fun c_2 => ?_) (fun c_2 => ?_)
      · refine lv_aload_n hx hb dX2_turn_25 rfl (lv_at hl 0 rfl) ?_
        refine va_get (v := .ref q1) (C := RX2) (T := TX2) (N := 7) hx hb hts in_X2 hown hK hP 0 rfl rfl 0 (by decide) w_1 (fun _ h9 => h9) rfl dX2_turn_26 ?_
        refine lv_iload_n hx hb dX2_turn_29 rfl (lv_at hl 1 rfl) ?_
        refine va_iald hx hb hK hP 1 0 rfl rfl (R_need_in c_1) dX2_turn_30 ?_
        refine lv_ldc (v := 32768) hx hb hown w_3 dX2_turn_31 ?_
        refine lv_ixor hx hb dX2_turn_33 ?_
        exact J _ (by rw [if_pos c_2]; try rfl)
      · refine lv_aload_n hx hb dX2_turn_13 rfl (lv_at hl 0 rfl) ?_
        refine va_get (v := .ref q1) (C := RX2) (T := TX2) (N := 7) hx hb hts in_X2 hown hK hP 0 rfl rfl 0 (by decide) w_1 (fun _ h9 => h9) rfl dX2_turn_14 ?_
        refine lv_iload_n hx hb dX2_turn_17 rfl (lv_at hl 1 rfl) ?_
        refine va_iald hx hb hK hP 1 0 rfl rfl (R_need_in c_1) dX2_turn_18 ?_
        refine lv_ldc (v := (-32769)) hx hb hown w_4 dX2_turn_19 ?_
        refine lv_iand hx hb dX2_turn_21 ?_
        refine lv_goto (tgt := 34) hx hb dX2_turn_22 (by decide) ?_
        exact J _ (by rw [if_neg c_2]; try rfl)
    refine va_iast hx hb hK hP hD hS 1 0 rfl rfl (R_need_in c_1) dX2_turn_34 (fun H locs hP hD hS => ?_)
    have hP : va_P D vwCl (cRS h q1 q2 cA cB (upd tf rg.toNatClampNeg (if bI aw = 0 then ((tf rg.toNatClampNeg) ^^^ 32768) else ((tf rg.toNatClampNeg) &&& (-32769)))) ff cw td an qb pa) H := hP
    have hD : va_D A (cRS h q1 q2 cA cB (upd tf rg.toNatClampNeg (if bI aw = 0 then ((tf rg.toNatClampNeg) ^^^ 32768) else ((tf rg.toNatClampNeg) &&& (-32769)))) ff cw td an qb pa) := hD
    have hw : R_turn tf rg aw = (0, (upd tf rg.toNatClampNeg (if bI aw = 0 then ((tf rg.toNatClampNeg) ^^^ 32768) else ((tf rg.toNatClampNeg) &&& (-32769))))) := by unfold R_turn; rw [if_pos c_1]; try rfl
    exact vx_ret (W.vret hx hb hr (fun t9 ht hW => ⟨⟨(), rfl, trivial, ⟨(upd tf rg.toNatClampNeg (if bI aw = 0 then ((tf rg.toNatClampNeg) ^^^ 32768) else ((tf rg.toNatClampNeg) &&& (-32769)))), hw, by rw [ht]; exact hP, hD⟩⟩, hS.F ht⟩) hS.2.2 dX2_turn_35)
def R_constant (tf : Nat → Int32) (ff : Nat → Int64) (wh : Int32) (rg : Int32) : Int32 × (Nat → Int32) × (Nat → Int64) :=
  if R_need rg = true then (if wh < 0 then (2, tf, ff)
    else if 7 ≤ wh then (2, tf, ff)
    else if wh < 7 then (tup2 ((R_write tf ff rg (R_ktop wh) (R_kfrac wh))) (fun otf_6 off_7 =>
        (0, otf_6, off_7)))
    else (2, tf, ff))
  else (1, tf, ff)
theorem kS_X2_constant : yX2_constant.cls ≠ "java/lang/invoke/MethodHandle" ∧ yX2_constant.cls ≠ "java/lang/invoke/VarHandle" ∧ (parseMethodDescriptor yX2_constant.desc).map (fun d => d.parameters.length) = some 2 := by decide +kernel
theorem kV_X2_constant : yX2_constant.cls = RX2 ∧ yX2_constant.cls ≠ "java/lang/invoke/MethodHandle" ∧ yX2_constant.cls ≠ "java/lang/invoke/VarHandle" ∧ (parseMethodDescriptor yX2_constant.desc).map (fun d => d.parameters.length) = some 2 := ⟨rfl, kS_X2_constant⟩
set_option maxHeartbeats 4000000 in
set_option maxRecDepth 100000 in
theorem c_X2_constant (l : Launch) (hl9 : l.stackTraces = false) (D : va_G) (ad : Nat → Nat) (h : Nat) (q1 : Nat) (q2 : Nat) (cA : ClassId) (cB : ClassId) (tf : Nat → Int32) (ff : Nat → Int64) (cw : Int32) (td : Int32) (an : Bool) (qb : Int32) (pa : Bool) (wh : Int32) (rg : Int32) (sz : Nat) : vx_Met l yX2_constant wsX2_constant ({ frames := 7, cells := 2, slots := 12, locals := 110 } : Room) (va_Pc [.ref h, .int wh, .int rg] (TXB (MRB D ad h q1 q2 (tRS cA cB) (cRS h q1 q2 cA cB tf ff cw td an qb pa) [] sz))) (va_Qv (fun (_ : Unit) => True) (fun _ t => ∃ (w_tf : Nat → Int32) (w_ff : Nat → Int64), R_constant tf ff wh rg = (0, w_tf, w_ff) ∧ va_P D vwCl (cRS h q1 q2 cA cB w_tf w_ff cw td an qb pa) t.heap ∧ va_D (va_A (cRS h q1 q2 cA cB tf ff cw td an qb pa) sz) (cRS h q1 q2 cA cB w_tf w_ff cw td an qb pa)) (va_A (cRS h q1 q2 cA cB tf ff cw td an qb pa) sz)) (vx_X (fun _ : Unit => True) (fun E _ t => ∃ k : Int32, R_constant tf ff wh rg = (k, tf, ff) ∧ ((E = xIOB ∧ k = 1) ∨ (E = xIAE ∧ k = 2)) ∧ va_P D vwCl (cRS h q1 q2 cA cB tf ff cw td an qb pa) t.heap) (va_A (cRS h q1 q2 cA cB tf ff cw td an qb pa) sz)) 2 12 (va_A (cRS h q1 q2 cA cB tf ff cw td an qb pa) sz) := by
  refine vx_ofW (cc := cX2_constant) (maxL := 3) (ret := none) (by decide) rfl ?_
  intro p e s m args below meth c s₁ B hml htb hv
  obtain ⟨rfl, ⟨hsz, hP, hK, hD0, hR0, hRp, hE⟩, hDW⟩ := hv
  have hx := B.exec
  have hb := B.bytes
  have hr := B.returns
  have hts := atoms_spec (ws := wsX2_constant) B.pre
  have hown : s.vm.findClass RX2 = some m.cls := findClass_of_methodNamed B.named
  have hlocks := B.notSynchronized
  have w_1 := hts (.classLink RX2 35 xIAE) (by decide +kernel)
  have w_2 := hts (.initialized xIAE) (by decide +kernel)
  have w_3 := hts (.fieldLink RX2 63 "RealSteps" "CONSTANT_TOPS" "[I") (by decide +kernel)
  have w_4 := hts (.fieldLink RX2 66 "RealSteps" "CONSTANT_FRACTIONS" "[J") (by decide +kernel)
  have w_5 := hts (.classLink RX2 48 RX1) (by decide +kernel)
  have w_6 := hts (.instantiable RX1 2) (by decide +kernel)
  have w_7 := hts (.initialized RX1) (by decide +kernel)
  have in_X1 : ∀ w ∈ wsX10, w ∈ wsX2_constant := by decide +kernel
  have w_9 := hts (.instanceMethod yX1_init) (by decide +kernel)
  subst hsz
  have hD := hD0.self (sz := s.heap.size)
  have hRA := rs_A hR0 hRp (e1 := .inr (1, [.ref q1, .ref q2, .int cw, .int td, .int (bI an), .int qb, .int (bI pa)])) (e2 := .inl (cA, 8, .inl tf)) (e3 := .inl (cB, 8, .inr (.inl ff)))
  generalize hAe : va_A (cRS h q1 q2 cA cB tf ff cw td an qb pa) s.heap.size = A at hD hE hRA ⊢
  have hA : ∀ q : Nat, s.heap.size ≤ q → A q := fun q h => by rw [← hAe]; exact Or.inr h
  have hS : va_S A s.heap s.heap [] := va_S.rf
  have hP : va_P D vwCl (cRS h q1 q2 cA cB tf ff cw td an qb pa) s.heap := hP
  have hl := lv_entry ([.ref h, .int wh, .int rg]) (n := 3) (Nat.le_of_ble_eq_true rfl)
  rw [lg_entry_eq]
  generalize (lg_sl ([.ref h, .int wh, .int rg]) ++ List.replicate (3 - (lg_sl ([.ref h, .int wh, .int rg])).length) Slot.unset).toArray = ls at hl ⊢
  have hl : lv_has ls 3 [(0, .ref h), (1, .int wh), (2, .int rg)] := hl
  obtain ⟨tT, hZT, hTT⟩ := hE.2.2.2.2.2.2.1
  obtain ⟨tF, hZF, hTF⟩ := hE.2.2.2.2.2.2.2.1
  refine lv_iload_n hx hb dX2_constant_0 rfl (lv_at hl 2 rfl) ?_
  have hFc : ∀ q, va_A [] s.heap.size q → A q := va_free (wc := []) hD hS hA [] rfl
  refine vx_callv (vx_runS (As := [.int rg]) (rest := []) ⟨hx, hb, hml, hown, hts⟩ (c_X2_needRegister l hl9 D ad rg s.heap.size) (va_cwS 1 hts gX2_constant_X2_needRegister rfl rfl rfl kS_X2_needRegister ⟨Nat.le_of_ble_eq_true rfl, Nat.le_of_ble_eq_true rfl⟩) ⟨TXB.blind SCB.blind, TXB.pre (SCB.pre hK vP_nil hE hS hFc) hDW⟩ rfl rfl hl.1 rfl (lv_room (Nat.le_of_ble_eq_true rfl)) dX2_constant_1 ⟨Nat.le_of_ble_eq_true rfl, Nat.le_of_ble_eq_true rfl⟩) hS (fun q _ h9 => hFc q h9) hFc (fun q _ h9 => hFc q h9) (fun E9 ce9 q9 u9 t9 H9 locs9 ht hvm c_1 hB hz1 hk1 hS9 hce9 hcv9 hcl9 => ?_) (fun u9 t9 H locs ht hvm c_1 hB hz1 hk1 hS => ?_)
  · have hw : R_constant tf ff wh rg = (1, tf, ff) := by unfold R_constant; rw [if_neg c_1]; try rfl
    exact vx_out (fun x h => (htb x h).elim) hlocks hce9 hcv9 hcl9 (fun t9 ht ha => ⟨(), trivial, ⟨1, hw, (Or.inl ⟨hB, rfl⟩), by rw [ht]; exact ro_make hP hk1⟩, hS9.F ht⟩) hS9.2.2 (Nat.le_of_ble_eq_true rfl) (Nat.le_of_ble_eq_true rfl)
  · have hP : va_P D vwCl (cRS h q1 q2 cA cB tf ff cw td an qb pa) H := ro_make hP hk1
    refine lv_iload_n hx hb dX2_constant_4 rfl (lv_at hl 1 rfl) ?_
    refine lv_if_lt (tgt := 24) hx hb dX2_constant_5 (by decide) (fun c_2 => ?_) (fun c_2 => ?_)
    · obtain ⟨sa9, hst9⟩ := hE.2.2.2.1 _ (List.mem_of_getElem? (i := 5) rfl)
      have hw : R_constant tf ff wh rg = (2, tf, ff) := by unfold R_constant; rw [if_pos c_1, if_pos c_2]; try rfl
      exact vx_throwS hx hb hl9 (names := xNm) hown gf_xIAE gf_Nm w_1 w_2 hst9 (vx_hat (B := .castable xIAE xIAE :: decW) (fun w h => hts w (List.mem_cons_of_mem _ (List.mem_append_left _ (List.mem_append_right _ h)))) gb_xIAE (vx_c (va_Nw.use rfl (hE.2.2.1 (.castable xIAE xIAE) (by decide))) (vx_c (va_Nw.use rfl (hDW _ (List.mem_of_getElem? (i := 0) rfl))) (vx_c (va_Nw.use rfl (hDW _ (List.mem_of_getElem? (i := 1) rfl))) (vx_c (va_Nw.use rfl (hDW _ (List.mem_of_getElem? (i := 2) rfl))) vx_n))))) gx_xIAE hE.2.2.2.2.1 hE.2.2.2.2.2.1 hS (hl.1.trans hml.symm) dX2_constant_24 dX2_constant_27 dX2_constant_28 dX2_constant_30 dX2_constant_33 (fun x h => (htb x h).elim) (Nat.le_of_ble_eq_true rfl) (Nat.le_of_ble_eq_true rfl) (Nat.le_of_ble_eq_true rfl) (Nat.le_of_ble_eq_true rfl) hlocks (fun t9 ha h1 h2 => ⟨(), trivial, ⟨2, hw, (Or.inr ⟨rfl, rfl⟩), hP.kept (fun k q hk => h2 q.1 (hP k q hk).lt)⟩, ⟨Nat.le_trans hS.1 h1, fun q g1 g2 => (h2 q (Nat.lt_of_lt_of_le g1 hS.1)).trans (hS.2.1 q g1 g2)⟩⟩) hS.2.2 (Nat.le_of_ble_eq_true rfl) (Nat.le_of_ble_eq_true rfl)
    · refine lv_iload_n hx hb dX2_constant_8 rfl (lv_at hl 1 rfl) ?_
      refine va_gets (v := .ref tT) hx hb hZT hS hown w_3 (fun _ h9 => h9) dX2_constant_9 ?_
      refine va_tlen (v := 7) hx hb hTT hS rfl dX2_constant_12 ?_
      refine lv_icmp_ge (tgt := 24) hx hb dX2_constant_13 (by decide) (fun c_3 => ?_) (fun c_3 => ?_)
      · obtain ⟨sa9, hst9⟩ := hE.2.2.2.1 _ (List.mem_of_getElem? (i := 5) rfl)
        have hw : R_constant tf ff wh rg = (2, tf, ff) := by unfold R_constant; rw [if_pos c_1, if_neg c_2, if_pos c_3]; try rfl
        exact vx_throwS hx hb hl9 (names := xNm) hown gf_xIAE gf_Nm w_1 w_2 hst9 (vx_hat (B := .castable xIAE xIAE :: decW) (fun w h => hts w (List.mem_cons_of_mem _ (List.mem_append_left _ (List.mem_append_right _ h)))) gb_xIAE (vx_c (va_Nw.use rfl (hE.2.2.1 (.castable xIAE xIAE) (by decide))) (vx_c (va_Nw.use rfl (hDW _ (List.mem_of_getElem? (i := 0) rfl))) (vx_c (va_Nw.use rfl (hDW _ (List.mem_of_getElem? (i := 1) rfl))) (vx_c (va_Nw.use rfl (hDW _ (List.mem_of_getElem? (i := 2) rfl))) vx_n))))) gx_xIAE hE.2.2.2.2.1 hE.2.2.2.2.2.1 hS (hl.1.trans hml.symm) dX2_constant_24 dX2_constant_27 dX2_constant_28 dX2_constant_30 dX2_constant_33 (fun x h => (htb x h).elim) (Nat.le_of_ble_eq_true rfl) (Nat.le_of_ble_eq_true rfl) (Nat.le_of_ble_eq_true rfl) (Nat.le_of_ble_eq_true rfl) hlocks (fun t9 ha h1 h2 => ⟨(), trivial, ⟨2, hw, (Or.inr ⟨rfl, rfl⟩), hP.kept (fun k q hk => h2 q.1 (hP k q hk).lt)⟩, ⟨Nat.le_trans hS.1 h1, fun q g1 g2 => (h2 q (Nat.lt_of_lt_of_le g1 hS.1)).trans (hS.2.1 q g1 g2)⟩⟩) hS.2.2 (Nat.le_of_ble_eq_true rfl) (Nat.le_of_ble_eq_true rfl)
      · refine lv_iload_n hx hb dX2_constant_16 rfl (lv_at hl 1 rfl) ?_
        refine va_gets (v := .ref tF) hx hb hZF hS hown w_4 (fun _ h9 => h9) dX2_constant_17 ?_
        refine va_tlen (v := 7) hx hb hTF hS rfl dX2_constant_20 ?_
        refine lv_icmp_lt (tgt := 34) hx hb dX2_constant_21 (by decide) (fun c_4 => ?_) (fun c_4 => ?_)
        · refine lv_aload_n hx hb dX2_constant_34 rfl (lv_at hl 0 rfl) ?_
          refine lv_iload_n hx hb dX2_constant_35 rfl (lv_at hl 2 rfl) ?_
          refine va_new (ci := 0) (fs := [.int 0, .long 0]) (C := RX1) (T := TX1) (N := 2) hx hb hts in_X1 tyX1 tyX1_ok hown w_5 w_6 w_7 hK hP hD hS hA rfl (fun j hj => by rcases (show j = 0 ∨ j = 1 by omega) with rfl | rfl <;> rfl) (Nat.le_of_ble_eq_true rfl) (Nat.le_of_ble_eq_true rfl) dX2_constant_36 (fun q_5 H hP4 hD4 hS => ?_)
          have hP : va_P D vwCl (cRS h q1 q2 cA cB tf ff cw td an qb pa) H := hP4.sub [0, 1, 2] rfl
          have hD : va_D A (cRS h q1 q2 cA cB tf ff cw td an qb pa) := hD4.sub [0, 1, 2] (by decide) rfl
          have nx_q_5 : ap3 q_5 h q1 q2 := ap_D hD4
          have hx_q_5 : va_P D vwCl [cReal q_5 0 0] H := hP4.sub [3] rfl
          have hd_q_5 : va_D A [cReal q_5 0 0] := hD4.sub [3] (by decide) rfl
          refine lv_dup hx hb dX2_constant_39 rfl ?_
          refine va_gets (v := .ref tT) hx hb hZT hS hown w_3 (fun _ h9 => h9) dX2_constant_40 ?_
          refine lv_iload_n hx hb dX2_constant_43 rfl (lv_at hl 1 rfl) ?_
          refine va_ti hx hb hTT hS (R_kin c_2 c_3) (v := .int (R_ktop wh)) rfl dX2_constant_44 ?_
          refine va_gets (v := .ref tF) hx hb hZF hS hown w_4 (fun _ h9 => h9) dX2_constant_45 ?_
          refine lv_iload_n hx hb dX2_constant_48 rfl (lv_at hl 1 rfl) ?_
          refine va_tl hx hb hTF hS (R_kin c_2 c_3) (v := .long (R_kfrac wh)) rfl dX2_constant_49 ?_
          have hFc := va_free (wc := [cReal q_5 0 0]) hd_q_5 hS hA [0] rfl
          refine va_callv (va_runIN (As := [.int (R_ktop wh), .long (R_kfrac wh)]) (rest := [.ref q_5, .int rg, .ref h]) ⟨hx, hb, hml, hown, hts⟩ (c_X1_init l D q_5 (R_ktop wh) (R_kfrac wh) H.size) ⟨va_cnB 2 hts gX2_constant_X1_init_n52 rfl rfl rfl (hE.2.1 _ (List.mem_of_getElem? (i := 7) rfl)) w_7 kS_X1_init ⟨Nat.le_of_ble_eq_true rfl, Nat.le_of_ble_eq_true rfl⟩, rfl, w_9⟩ ⟨INB.blind, INB.pre (hK.sub [] rfl) hx_q_5 hd_q_5⟩ rfl rfl hl.1 rfl (lv_room (Nat.le_of_ble_eq_true rfl)) dX2_constant_50 ⟨Nat.le_of_ble_eq_true rfl, Nat.le_of_ble_eq_true rfl⟩) hS (fun q _ h9 => hFc q h9) hFc (fun u9 t9 H locs ht hvm hw hB hz1 hk1 hS => ?_)
          have hx_q_5 : va_P D vwCl [cReal q_5 (R_ktop wh) (R_kfrac wh)] H := by rw [← ht]; exact hB
          have hP : va_P D vwCl (cRS h q1 q2 cA cB tf ff cw td an qb pa) H := ro_init hP nx_q_5 hk1
          have hFc := va_free (wc := cRS h q1 q2 cA cB tf ff cw td an qb pa) hD hS hA [0, 1, 2] rfl
          refine va_callv (va_runV (As := [.int rg, .ref q_5]) (rest := []) ⟨hx, hb, hml, hown, hts⟩ (c_X2_write l D ad h q1 q2 cA cB tf ff cw td an qb pa q_5 (R_ktop wh) (R_kfrac wh) rg H.size (R_need_in c_1)) (cwV 2 hts gX2_constant_X2_write rfl rfl rfl kV_X2_write ⟨Nat.le_of_ble_eq_true rfl, Nat.le_of_ble_eq_true rfl⟩) ⟨MRB.blind, va_recv hK hP (ci := 1) (q0 := 0) rfl rfl, MRB.pre hK hP hD (vP_one hx_q_5 vP_nil) (ap_one nx_q_5 ap_nil) hE hS hFc⟩ rfl rfl hl.1 rfl (lv_room (Nat.le_of_ble_eq_true rfl)) dX2_constant_53 ⟨Nat.le_of_ble_eq_true rfl, Nat.le_of_ble_eq_true rfl⟩) hS (fun q _ h9 => hFc q h9) hFc (fun u9 t9 H locs ht hvm hw hB hz1 hk1 hS => ?_)
          obtain ⟨otf_6, off_7, e_8, hP, hD9⟩ := hB
          rw [ht] at hP
          have hD : va_D A (cRS h q1 q2 cA cB otf_6 off_7 cw td an qb pa) := hD9.weaken (fun _ _ _ h => hFc _ h)
          have hx_q_5 := ro_keep hx_q_5 nx_q_5 hk1
          refine W.widen (k := 2) (n := 12) (Nat.le_of_ble_eq_true rfl) (Nat.le_of_ble_eq_true rfl) ?_
          have hw : R_constant tf ff wh rg = (0, otf_6, off_7) := by unfold R_constant; rw [if_pos c_1, if_neg c_2, if_neg c_3, if_pos c_4, tup2_e e_8]; try rfl
          exact vx_ret (W.vret hx hb hr (fun t9 ht hW => ⟨⟨(), rfl, trivial, ⟨otf_6, off_7, hw, by rw [ht]; exact hP, hD⟩⟩, hS.F ht⟩) hS.2.2 dX2_constant_56)
        · obtain ⟨sa9, hst9⟩ := hE.2.2.2.1 _ (List.mem_of_getElem? (i := 5) rfl)
          have hw : R_constant tf ff wh rg = (2, tf, ff) := by unfold R_constant; rw [if_pos c_1, if_neg c_2, if_neg c_3, if_neg c_4]; try rfl
          exact vx_throwS hx hb hl9 (names := xNm) hown gf_xIAE gf_Nm w_1 w_2 hst9 (vx_hat (B := .castable xIAE xIAE :: decW) (fun w h => hts w (List.mem_cons_of_mem _ (List.mem_append_left _ (List.mem_append_right _ h)))) gb_xIAE (vx_c (va_Nw.use rfl (hE.2.2.1 (.castable xIAE xIAE) (by decide))) (vx_c (va_Nw.use rfl (hDW _ (List.mem_of_getElem? (i := 0) rfl))) (vx_c (va_Nw.use rfl (hDW _ (List.mem_of_getElem? (i := 1) rfl))) (vx_c (va_Nw.use rfl (hDW _ (List.mem_of_getElem? (i := 2) rfl))) vx_n))))) gx_xIAE hE.2.2.2.2.1 hE.2.2.2.2.2.1 hS (hl.1.trans hml.symm) dX2_constant_24 dX2_constant_27 dX2_constant_28 dX2_constant_30 dX2_constant_33 (fun x h => (htb x h).elim) (Nat.le_of_ble_eq_true rfl) (Nat.le_of_ble_eq_true rfl) (Nat.le_of_ble_eq_true rfl) (Nat.le_of_ble_eq_true rfl) hlocks (fun t9 ha h1 h2 => ⟨(), trivial, ⟨2, hw, (Or.inr ⟨rfl, rfl⟩), hP.kept (fun k q hk => h2 q.1 (hP k q hk).lt)⟩, ⟨Nat.le_trans hS.1 h1, fun q g1 g2 => (h2 q (Nat.lt_of_lt_of_le g1 hS.1)).trans (hS.2.1 q g1 g2)⟩⟩) hS.2.2 (Nat.le_of_ble_eq_true rfl) (Nat.le_of_ble_eq_true rfl)
def R_examine (tf : Nat → Int32) (ff : Nat → Int64) (ra : Int32) : Int32 × Int32 :=
  if R_need ra = true then (tup2 ((R_read (tf ra.toNatClampNeg) (ff ra.toNatClampNeg))) (fun vt_3 vf_4 =>
      (((R_seen (R_kind vt_3 vf_4)) + (if bI (R_neg vt_3) = 0 then (0 : Int32) else (2 : Int32))), 0)))
  else (0, 1)
theorem kS_X2_examine : yX2_examine.cls ≠ "java/lang/invoke/MethodHandle" ∧ yX2_examine.cls ≠ "java/lang/invoke/VarHandle" ∧ (parseMethodDescriptor yX2_examine.desc).map (fun d => d.parameters.length) = some 1 := by decide +kernel
theorem kV_X2_examine : yX2_examine.cls = RX2 ∧ yX2_examine.cls ≠ "java/lang/invoke/MethodHandle" ∧ yX2_examine.cls ≠ "java/lang/invoke/VarHandle" ∧ (parseMethodDescriptor yX2_examine.desc).map (fun d => d.parameters.length) = some 1 := ⟨rfl, kS_X2_examine⟩
set_option maxHeartbeats 4000000 in
set_option maxRecDepth 100000 in
theorem c_X2_examine (l : Launch) (hl9 : l.stackTraces = false) (D : va_G) (ad : Nat → Nat) (h : Nat) (q1 : Nat) (q2 : Nat) (cA : ClassId) (cB : ClassId) (tf : Nat → Int32) (ff : Nat → Int64) (cw : Int32) (td : Int32) (an : Bool) (qb : Int32) (pa : Bool) (ra : Int32) (sz : Nat) : vx_Met l yX2_examine wsX2_examine ({ frames := 7, cells := 2, slots := 8, locals := 110 } : Room) (va_Pc [.ref h, .int ra] (TXB (MRB D ad h q1 q2 (tRS cA cB) (cRS h q1 q2 cA cB tf ff cw td an qb pa) [] sz))) (va_Qi (fun (r u : Int32) => r = u) (fun u t => R_examine tf ff ra = (u, 0) ∧ va_P D vwCl (cRS h q1 q2 cA cB tf ff cw td an qb pa) t.heap ∧ va_D (va_A (cRS h q1 q2 cA cB tf ff cw td an qb pa) sz) (cRS h q1 q2 cA cB tf ff cw td an qb pa)) (va_A (cRS h q1 q2 cA cB tf ff cw td an qb pa) sz)) (vx_X (fun _ : Unit => True) (fun E _ t => ∃ k : Int32, R_examine tf ff ra = (0, k) ∧ (E = xIOB ∧ k = 1) ∧ va_P D vwCl (cRS h q1 q2 cA cB tf ff cw td an qb pa) t.heap) (va_A (cRS h q1 q2 cA cB tf ff cw td an qb pa) sz)) 2 8 (va_A (cRS h q1 q2 cA cB tf ff cw td an qb pa) sz) := by
  refine vx_ofW (cc := cX2_examine) (maxL := 3) (ret := (some .int)) (by decide) rfl ?_
  intro p e s m args below meth c s₁ B hml htb hv
  obtain ⟨rfl, ⟨hsz, hP, hK, hD0, hR0, hRp, hE⟩, hDW⟩ := hv
  have hx := B.exec
  have hb := B.bytes
  have hr := B.returns
  have hts := atoms_spec (ws := wsX2_examine) B.pre
  have hown : s.vm.findClass RX2 = some m.cls := findClass_of_methodNamed B.named
  have hlocks := B.notSynchronized
  have w_1 := hts (.initialized RX1) (by decide +kernel)
  have w_2 := hts (.instanceMethod yX1_kind) (by decide +kernel)
  have w_3 := hts (.selects RX1 yX1_kind yX1_kind) (by decide +kernel)
  have w_4 := hts (.instanceMethod yX1_isNegative) (by decide +kernel)
  have w_5 := hts (.selects RX1 yX1_isNegative yX1_isNegative) (by decide +kernel)
  subst hsz
  have hD := hD0.self (sz := s.heap.size)
  have hRA := rs_A hR0 hRp (e1 := .inr (1, [.ref q1, .ref q2, .int cw, .int td, .int (bI an), .int qb, .int (bI pa)])) (e2 := .inl (cA, 8, .inl tf)) (e3 := .inl (cB, 8, .inr (.inl ff)))
  generalize hAe : va_A (cRS h q1 q2 cA cB tf ff cw td an qb pa) s.heap.size = A at hD hE hRA ⊢
  have hA : ∀ q : Nat, s.heap.size ≤ q → A q := fun q h => by rw [← hAe]; exact Or.inr h
  have hS : va_S A s.heap s.heap [] := va_S.rf
  have hP : va_P D vwCl (cRS h q1 q2 cA cB tf ff cw td an qb pa) s.heap := hP
  have hl := lv_entry ([.ref h, .int ra]) (n := 3) (Nat.le_of_ble_eq_true rfl)
  rw [lg_entry_eq]
  generalize (lg_sl ([.ref h, .int ra]) ++ List.replicate (3 - (lg_sl ([.ref h, .int ra])).length) Slot.unset).toArray = ls at hl ⊢
  have hl : lv_has ls 3 [(0, .ref h), (1, .int ra)] := hl
  refine lv_iload_n hx hb dX2_examine_0 rfl (lv_at hl 1 rfl) ?_
  have hFc : ∀ q, va_A [] s.heap.size q → A q := va_free (wc := []) hD hS hA [] rfl
  refine vx_callv (vx_runS (As := [.int ra]) (rest := []) ⟨hx, hb, hml, hown, hts⟩ (c_X2_needRegister l hl9 D ad ra s.heap.size) (va_cwS 1 hts gX2_examine_X2_needRegister rfl rfl rfl kS_X2_needRegister ⟨Nat.le_of_ble_eq_true rfl, Nat.le_of_ble_eq_true rfl⟩) ⟨TXB.blind SCB.blind, TXB.pre (SCB.pre hK vP_nil hE hS hFc) hDW⟩ rfl rfl hl.1 rfl (lv_room (Nat.le_of_ble_eq_true rfl)) dX2_examine_1 ⟨Nat.le_of_ble_eq_true rfl, Nat.le_of_ble_eq_true rfl⟩) hS (fun q _ h9 => hFc q h9) hFc (fun q _ h9 => hFc q h9) (fun E9 ce9 q9 u9 t9 H9 locs9 ht hvm c_1 hB hz1 hk1 hS9 hce9 hcv9 hcl9 => ?_) (fun u9 t9 H locs ht hvm c_1 hB hz1 hk1 hS => ?_)
  · have hw : R_examine tf ff ra = (0, 1) := by unfold R_examine; rw [if_neg c_1]; try rfl
    exact vx_out (fun x h => (htb x h).elim) hlocks hce9 hcv9 hcl9 (fun t9 ht ha => ⟨(), trivial, ⟨1, hw, ⟨hB, rfl⟩, by rw [ht]; exact ro_make hP hk1⟩, hS9.F ht⟩) hS9.2.2 (Nat.le_of_ble_eq_true rfl) (Nat.le_of_ble_eq_true rfl)
  · have hP : va_P D vwCl (cRS h q1 q2 cA cB tf ff cw td an qb pa) H := ro_make hP hk1
    refine lv_aload_n hx hb dX2_examine_4 rfl (lv_at hl 0 rfl) ?_
    refine lv_iload_n hx hb dX2_examine_5 rfl (lv_at hl 1 rfl) ?_
    have hFc := va_free (wc := cRS h q1 q2 cA cB tf ff cw td an qb pa) hD hS hA [0, 1, 2] rfl
    refine va_callr (va_runV (As := [.int ra]) (rest := []) ⟨hx, hb, hml, hown, hts⟩ (c_X2_read l D ad h q1 q2 cA cB tf ff cw td an qb pa ra H.size (R_need_in c_1)) (cwV 1 hts gX2_examine_X2_read rfl rfl rfl kV_X2_read ⟨Nat.le_of_ble_eq_true rfl, Nat.le_of_ble_eq_true rfl⟩) ⟨MRB.blind, va_recv hK hP (ci := 1) (q0 := 0) rfl rfl, MRB.pre hK hP hD vP_nil ap_nil hE hS hFc⟩ rfl rfl hl.1 rfl (lv_room (Nat.le_of_ble_eq_true rfl)) dX2_examine_6 ⟨Nat.le_of_ble_eq_true rfl, Nat.le_of_ble_eq_true rfl⟩) hS (fun q _ h9 => hFc q h9) hFc (fun u9 y_2 t9 H locs ht hvm hw hB hz1 hk1 hS => ?_)
    obtain ⟨vt_3, vf_4, e_5, hP, hD9, hx_y_2, nx_y_2⟩ := hB
    rw [ht] at hP hx_y_2
    have hD : va_D A (cRS h q1 q2 cA cB tf ff cw td an qb pa) := hD9.weaken (fun _ _ _ h => hFc _ h)
    refine lv_astore_n (lv' := [(2, .ref y_2), (0, .ref h), (1, .int ra)]) hx hb dX2_examine_9 rfl hl (by decide) rfl (fun ls hl => ?_)
    refine lv_aload_n hx hb dX2_examine_10 rfl (lv_at hl 0 rfl) ?_
    refine va_cse (va_cr (va_runVN (As := []) (rest := []) ⟨hx, hb, hml, hown, hts⟩ (c_X1_kind l D ad y_2 vt_3 vf_4) ⟨va_cnB 0 hts gX2_examine_X1_kind_n130 rfl rfl rfl (hE.2.1 _ (List.mem_of_getElem? (i := 1) rfl)) w_1 kS_X1_kind ⟨Nat.le_of_ble_eq_true rfl, Nat.le_of_ble_eq_true rfl⟩, w_2, w_3⟩ ⟨EB.blind, va_recv hK hx_y_2 (ci := 0) (q0 := 0) rfl rfl, EB.pre (hK.sub [] rfl) hx_y_2 hE hS⟩ rfl rfl hl.1 rfl (lv_room (Nat.le_of_ble_eq_true rfl)) dX2_examine_11 ⟨Nat.le_of_ble_eq_true rfl, Nat.le_of_ble_eq_true rfl⟩)) (fun r9 e9 => ?_)
    rw [e9]
    refine q_getEN (i := (R_kind vt_3 vf_4)) hx hb hE.1 (R_kind_lt _ _) hS hown (q := ("RealSteps$Kind", "examined", "I", [8, 12, 0, 4, 5, 1])) List.mem_cons_self (va_Nw.use rfl (hE.2.1 (.fieldLinkNest RX2 134 "RealSteps$Kind" "examined" "I" RX2) (by decide))) (fun _ h9 => h9) dX2_examine_14 ?_
    refine W.eq (g2 := F0 m 17 ls [.int (R_seen (R_kind vt_3 vf_4))]) rfl ?_
    refine lv_aload_n hx hb dX2_examine_17 rfl (lv_at hl 0 rfl) ?_
    refine vp_callSi (va_cr (va_runVN (As := []) (rest := [.int (R_seen (R_kind vt_3 vf_4))]) ⟨hx, hb, hml, hown, hts⟩ (c_X1_isNegative l D ad y_2 vt_3 vf_4) ⟨va_cnB 0 hts gX2_examine_X1_isNegative_n137 rfl rfl rfl (hE.2.1 _ (List.mem_of_getElem? (i := 2) rfl)) w_1 kS_X1_isNegative ⟨Nat.le_of_ble_eq_true rfl, Nat.le_of_ble_eq_true rfl⟩, w_4, w_5⟩ ⟨EB.blind, va_recv hK hx_y_2 (ci := 0) (q0 := 0) rfl rfl, EB.pre (hK.sub [] rfl) hx_y_2 hE hS⟩ rfl rfl hl.1 rfl (lv_room (Nat.le_of_ble_eq_true rfl)) dX2_examine_18 ⟨Nat.le_of_ble_eq_true rfl, Nat.le_of_ble_eq_true rfl⟩)) (fun r9 e9 => ?_)
    rw [e9]
    refine q_cut (v := (if bI (R_neg vt_3) = 0 then (0 : Int32) else (2 : Int32))) (pcJ := 29) (rest := [.int (R_seen (R_kind vt_3 vf_4))]) (fun J => ?_) ?_
    · refine lv_if_eq (tgt := 28) hx hb dX2_examine_21 (by decide) (fun c_6 => ?_) (fun c_6 => ?_)
      · refine lv_iconst (v := 0) hx hb dX2_examine_28 (by decide) ?_
        exact J _ (by rw [if_pos c_6]; try rfl)
      · refine lv_iconst (v := 2) hx hb dX2_examine_24 (by decide) ?_
        refine lv_goto (tgt := 29) hx hb dX2_examine_25 (by decide) ?_
        exact J _ (by rw [if_neg c_6]; try rfl)
    refine lv_iadd hx hb dX2_examine_29 ?_
    have hw : R_examine tf ff ra = (((R_seen (R_kind vt_3 vf_4)) + (if bI (R_neg vt_3) = 0 then (0 : Int32) else (2 : Int32))), 0) := by unfold R_examine; rw [if_pos c_1, tup2_e e_5]; try rfl
    exact vx_ret (W.iret hx hb hr (fun t9 ht hW => ⟨⟨_, ((R_seen (R_kind vt_3 vf_4)) + (if bI (R_neg vt_3) = 0 then (0 : Int32) else (2 : Int32))), rfl, rfl, ⟨hw, by rw [ht]; exact hP, hD⟩⟩, hS.F ht⟩) hS.2.2 dX2_examine_30)
def R_told (td : Int32) (an : Bool) (qb : Int32) (pa : Bool) (wh : Int32) : Int32 × Int32 :=
  if wh = 0 then (td, 0)
  else if wh = 1 then (bI (if bI an = 0 then false else true), 0)
  else if wh = 2 then (qb, 0)
  else if wh = 3 then (bI (if bI pa = 0 then false else true), 0)
  else (0, 1)
theorem kS_X2_told : yX2_told.cls ≠ "java/lang/invoke/MethodHandle" ∧ yX2_told.cls ≠ "java/lang/invoke/VarHandle" ∧ (parseMethodDescriptor yX2_told.desc).map (fun d => d.parameters.length) = some 1 := by decide +kernel
theorem kV_X2_told : yX2_told.cls = RX2 ∧ yX2_told.cls ≠ "java/lang/invoke/MethodHandle" ∧ yX2_told.cls ≠ "java/lang/invoke/VarHandle" ∧ (parseMethodDescriptor yX2_told.desc).map (fun d => d.parameters.length) = some 1 := ⟨rfl, kS_X2_told⟩
set_option maxHeartbeats 4000000 in
set_option maxRecDepth 100000 in
theorem c_X2_told (l : Launch) (hl9 : l.stackTraces = false) (D : va_G) (ad : Nat → Nat) (h : Nat) (q1 : Nat) (q2 : Nat) (cA : ClassId) (cB : ClassId) (tf : Nat → Int32) (ff : Nat → Int64) (cw : Int32) (td : Int32) (an : Bool) (qb : Int32) (pa : Bool) (wh : Int32) (sz : Nat) : vx_Met l yX2_told wsX2_told ({ frames := 6, cells := 1, slots := 6, locals := 90 } : Room) (va_Pc [.ref h, .int wh] (TXB (MRB D ad h q1 q2 (tRS cA cB) (cRS h q1 q2 cA cB tf ff cw td an qb pa) [] sz))) (va_Qi (fun (r u : Int32) => r = u) (fun u t => R_told td an qb pa wh = (u, 0) ∧ va_P D vwCl (cRS h q1 q2 cA cB tf ff cw td an qb pa) t.heap ∧ va_D (va_A (cRS h q1 q2 cA cB tf ff cw td an qb pa) sz) (cRS h q1 q2 cA cB tf ff cw td an qb pa)) (va_A (cRS h q1 q2 cA cB tf ff cw td an qb pa) sz)) (vx_X (fun _ : Unit => True) (fun E _ t => ∃ k : Int32, R_told td an qb pa wh = (0, k) ∧ (E = xIAE ∧ k = 1) ∧ va_P D vwCl (cRS h q1 q2 cA cB tf ff cw td an qb pa) t.heap) (va_A (cRS h q1 q2 cA cB tf ff cw td an qb pa) sz)) 1 6 (va_A (cRS h q1 q2 cA cB tf ff cw td an qb pa) sz) := by
  refine vx_ofW (cc := cX2_told) (maxL := 2) (ret := (some .int)) (by decide) rfl ?_
  intro p e s m args below meth c s₁ B hml htb hv
  obtain ⟨rfl, ⟨hsz, hP, hK, hD0, hR0, hRp, hE⟩, hDW⟩ := hv
  have hx := B.exec
  have hb := B.bytes
  have hr := B.returns
  have hts := atoms_spec (ws := wsX2_told) B.pre
  have hown : s.vm.findClass RX2 = some m.cls := findClass_of_methodNamed B.named
  have hlocks := B.notSynchronized
  have w_1 := hts (.fieldLink RX2 21 "RealSteps" "toldBits" "I") (by decide +kernel)
  have in_X2 : ∀ w ∈ wsX20, w ∈ wsX2_told := by decide +kernel
  have w_3 := hts (.fieldLink RX2 24 "RealSteps" "answered" "Z") (by decide +kernel)
  have w_4 := hts (.fieldLink RX2 28 "RealSteps" "quotientBits" "I") (by decide +kernel)
  have w_5 := hts (.fieldLink RX2 31 "RealSteps" "partial" "Z") (by decide +kernel)
  have w_6 := hts (.classLink RX2 35 xIAE) (by decide +kernel)
  have w_7 := hts (.initialized xIAE) (by decide +kernel)
  subst hsz
  have hD := hD0.self (sz := s.heap.size)
  have hRA := rs_A hR0 hRp (e1 := .inr (1, [.ref q1, .ref q2, .int cw, .int td, .int (bI an), .int qb, .int (bI pa)])) (e2 := .inl (cA, 8, .inl tf)) (e3 := .inl (cB, 8, .inr (.inl ff)))
  generalize hAe : va_A (cRS h q1 q2 cA cB tf ff cw td an qb pa) s.heap.size = A at hD hE hRA ⊢
  have hA : ∀ q : Nat, s.heap.size ≤ q → A q := fun q h => by rw [← hAe]; exact Or.inr h
  have hS : va_S A s.heap s.heap [] := va_S.rf
  have hP : va_P D vwCl (cRS h q1 q2 cA cB tf ff cw td an qb pa) s.heap := hP
  have hl := lv_entry ([.ref h, .int wh]) (n := 2) (Nat.le_of_ble_eq_true rfl)
  rw [lg_entry_eq]
  generalize (lg_sl ([.ref h, .int wh]) ++ List.replicate (2 - (lg_sl ([.ref h, .int wh])).length) Slot.unset).toArray = ls at hl ⊢
  have hl : lv_has ls 2 [(0, .ref h), (1, .int wh)] := hl
  refine lv_iload_n hx hb dX2_told_0 rfl (lv_at hl 1 rfl) ?_
  refine (dite (wh = 0) (fun c_1 => ?_) (fun c_1 => ?_))
  · refine lv_tableIn (tgt := 32) hx hb dX2_told_1 (by rw [c_1]; decide) (by rw [c_1]; decide) (by rw [c_1]; rfl) (by decide) ?_
    refine lv_aload_n hx hb dX2_told_32 rfl (lv_at hl 0 rfl) ?_
    refine va_get (v := .int td) (C := RX2) (T := TX2) (N := 7) hx hb hts in_X2 hown hK hP 0 rfl rfl 3 (by decide) w_1 (fun _ h9 => h9) rfl dX2_told_33 ?_
    refine W.widen (k := 1) (n := 6) (Nat.le_of_ble_eq_true rfl) (Nat.le_of_ble_eq_true rfl) ?_
    have hw : R_told td an qb pa wh = (td, 0) := by unfold R_told; rw [if_pos c_1]; try rfl
    exact vx_ret (W.iret hx hb hr (fun t9 ht hW => ⟨⟨_, td, rfl, rfl, ⟨hw, by rw [ht]; exact hP, hD⟩⟩, hS.F ht⟩) hS.2.2 dX2_told_36)
  · refine (dite (wh = 1) (fun c_2 => ?_) (fun c_2 => ?_))
    · refine lv_tableIn (tgt := 37) hx hb dX2_told_1 (by rw [c_2]; decide) (by rw [c_2]; decide) (by rw [c_2]; rfl) (by decide) ?_
      refine lv_aload_n hx hb dX2_told_37 rfl (lv_at hl 0 rfl) ?_
      refine va_get (v := .int (bI an)) (C := RX2) (T := TX2) (N := 7) hx hb hts in_X2 hown hK hP 0 rfl rfl 4 (by decide) w_3 (fun _ h9 => h9) rfl dX2_told_38 ?_
      refine q_cut (v := bI (if bI an = 0 then false else true)) (pcJ := 49) (rest := []) (fun J => ?_) ?_
      · refine lv_if_eq (tgt := 48) hx hb dX2_told_41 (by decide) (fun c_3 => ?_) (fun c_3 => ?_)
        · refine lv_iconst (v := 0) hx hb dX2_told_48 (by decide) ?_
          exact J _ (by rw [if_pos c_3]; try rfl)
        · refine lv_iconst (v := 1) hx hb dX2_told_44 (by decide) ?_
          refine lv_goto (tgt := 49) hx hb dX2_told_45 (by decide) ?_
          exact J _ (by rw [if_neg c_3]; try rfl)
      refine W.widen (k := 1) (n := 6) (Nat.le_of_ble_eq_true rfl) (Nat.le_of_ble_eq_true rfl) ?_
      have hw : R_told td an qb pa wh = (bI (if bI an = 0 then false else true), 0) := by unfold R_told; rw [if_neg c_1, if_pos c_2]; try rfl
      exact vx_ret (W.iret hx hb hr (fun t9 ht hW => ⟨⟨_, bI (if bI an = 0 then false else true), rfl, rfl, ⟨hw, by rw [ht]; exact hP, hD⟩⟩, hS.F ht⟩) hS.2.2 dX2_told_49)
    · refine (dite (wh = 2) (fun c_4 => ?_) (fun c_4 => ?_))
      · refine lv_tableIn (tgt := 50) hx hb dX2_told_1 (by rw [c_4]; decide) (by rw [c_4]; decide) (by rw [c_4]; rfl) (by decide) ?_
        refine lv_aload_n hx hb dX2_told_50 rfl (lv_at hl 0 rfl) ?_
        refine va_get (v := .int qb) (C := RX2) (T := TX2) (N := 7) hx hb hts in_X2 hown hK hP 0 rfl rfl 5 (by decide) w_4 (fun _ h9 => h9) rfl dX2_told_51 ?_
        refine W.widen (k := 1) (n := 6) (Nat.le_of_ble_eq_true rfl) (Nat.le_of_ble_eq_true rfl) ?_
        have hw : R_told td an qb pa wh = (qb, 0) := by unfold R_told; rw [if_neg c_1, if_neg c_2, if_pos c_4]; try rfl
        exact vx_ret (W.iret hx hb hr (fun t9 ht hW => ⟨⟨_, qb, rfl, rfl, ⟨hw, by rw [ht]; exact hP, hD⟩⟩, hS.F ht⟩) hS.2.2 dX2_told_54)
      · refine (dite (wh = 3) (fun c_5 => ?_) (fun c_5 => ?_))
        · refine lv_tableIn (tgt := 55) hx hb dX2_told_1 (by rw [c_5]; decide) (by rw [c_5]; decide) (by rw [c_5]; rfl) (by decide) ?_
          refine lv_aload_n hx hb dX2_told_55 rfl (lv_at hl 0 rfl) ?_
          refine va_get (v := .int (bI pa)) (C := RX2) (T := TX2) (N := 7) hx hb hts in_X2 hown hK hP 0 rfl rfl 6 (by decide) w_5 (fun _ h9 => h9) rfl dX2_told_56 ?_
          refine q_cut (v := bI (if bI pa = 0 then false else true)) (pcJ := 67) (rest := []) (fun J => ?_) ?_
          · refine lv_if_eq (tgt := 66) hx hb dX2_told_59 (by decide) (fun c_6 => ?_) (fun c_6 => ?_)
            · refine lv_iconst (v := 0) hx hb dX2_told_66 (by decide) ?_
              exact J _ (by rw [if_pos c_6]; try rfl)
            · refine lv_iconst (v := 1) hx hb dX2_told_62 (by decide) ?_
              refine lv_goto (tgt := 67) hx hb dX2_told_63 (by decide) ?_
              exact J _ (by rw [if_neg c_6]; try rfl)
          refine W.widen (k := 1) (n := 6) (Nat.le_of_ble_eq_true rfl) (Nat.le_of_ble_eq_true rfl) ?_
          have hw : R_told td an qb pa wh = (bI (if bI pa = 0 then false else true), 0) := by unfold R_told; rw [if_neg c_1, if_neg c_2, if_neg c_4, if_pos c_5]; try rfl
          exact vx_ret (W.iret hx hb hr (fun t9 ht hW => ⟨⟨_, bI (if bI pa = 0 then false else true), rfl, rfl, ⟨hw, by rw [ht]; exact hP, hD⟩⟩, hS.F ht⟩) hS.2.2 dX2_told_67)
        · refine lv_tableOut (tgt := 68) hx hb dX2_told_1 (sw_out_0_3 c_1 c_2 c_4 c_5) (by decide) ?_
          obtain ⟨sa9, hst9⟩ := hE.2.2.2.1 _ (List.mem_of_getElem? (i := 0) rfl)
          have hw : R_told td an qb pa wh = (0, 1) := by unfold R_told; rw [if_neg c_1, if_neg c_2, if_neg c_4, if_neg c_5]; try rfl
          exact vx_throwS hx hb hl9 (names := xNm) hown gf_xIAE gf_Nm w_6 w_7 hst9 (vx_hat (B := .castable xIAE xIAE :: decW) (fun w h => hts w (List.mem_cons_of_mem _ (List.mem_append_right _ h))) gb_xIAE (vx_c (va_Nw.use rfl (hE.2.2.1 (.castable xIAE xIAE) (by decide))) (vx_c (va_Nw.use rfl (hDW _ (List.mem_of_getElem? (i := 0) rfl))) (vx_c (va_Nw.use rfl (hDW _ (List.mem_of_getElem? (i := 1) rfl))) (vx_c (va_Nw.use rfl (hDW _ (List.mem_of_getElem? (i := 2) rfl))) vx_n))))) gx_xIAE hE.2.2.2.2.1 hE.2.2.2.2.2.1 hS (hl.1.trans hml.symm) dX2_told_68 dX2_told_71 dX2_told_72 dX2_told_74 dX2_told_77 (fun x h => (htb x h).elim) (Nat.le_of_ble_eq_true rfl) (Nat.le_of_ble_eq_true rfl) (Nat.le_of_ble_eq_true rfl) (Nat.le_of_ble_eq_true rfl) hlocks (fun t9 ha h1 h2 => ⟨(), trivial, ⟨1, hw, ⟨rfl, rfl⟩, hP.kept (fun k q hk => h2 q.1 (hP k q hk).lt)⟩, ⟨Nat.le_trans hS.1 h1, fun q g1 g2 => (h2 q (Nat.lt_of_lt_of_le g1 hS.1)).trans (hS.2.1 q g1 g2)⟩⟩) hS.2.2 (Nat.le_of_ble_eq_true rfl) (Nat.le_of_ble_eq_true rfl)
