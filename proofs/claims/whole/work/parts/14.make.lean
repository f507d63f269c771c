def R_read (t : Int32) (f : Int64) : Int32 × Int64 :=
  (t, f)
theorem kS_X2_read : yX2_read.cls ≠ "java/lang/invoke/MethodHandle" ∧ yX2_read.cls ≠ "java/lang/invoke/VarHandle" ∧ (parseMethodDescriptor yX2_read.desc).map (fun d => d.parameters.length) = some 1 := by decide +kernel
theorem kV_X2_read : yX2_read.cls = RX2 ∧ yX2_read.cls ≠ "java/lang/invoke/MethodHandle" ∧ yX2_read.cls ≠ "java/lang/invoke/VarHandle" ∧ (parseMethodDescriptor yX2_read.desc).map (fun d => d.parameters.length) = some 1 := ⟨rfl, kS_X2_read⟩
set_option maxHeartbeats 4000000 in
set_option maxRecDepth 100000 in
theorem c_X2_read (l : Launch) (D : va_G) (ad : Nat → Nat) (h : Nat) (q1 : Nat) (q2 : Nat) (cA : ClassId) (cB : ClassId) (tf : Nat → Int32) (ff : Nat → Int64) (cw : Int32) (td : Int32) (an : Bool) (qb : Int32) (pa : Bool) (rg : Int32) (sz : Nat) (hrg : vp_in rg 8) : Met l yX2_read wsX2_read ({ frames := 2, cells := 1, slots := 2, locals := 35 } : Room) (va_Pc [.ref h, .int rg] (MRB D ad h q1 q2 (tRS cA cB) (cRS h q1 q2 cA cB tf ff cw td an qb pa) [] sz)) (va_Qr (fun (_ : Unit) => True) (fun _ a t => ∃ (w_t : Int32) (w_f : Int64), R_read (tf rg.toNatClampNeg) (ff rg.toNatClampNeg) = (w_t, w_f) ∧ va_P D vwCl (cRS h q1 q2 cA cB tf ff cw td an qb pa) t.heap ∧ va_D (va_A (cRS h q1 q2 cA cB tf ff cw td an qb pa) sz) (cRS h q1 q2 cA cB tf ff cw td an qb pa) ∧ va_P D vwCl [cReal a w_t w_f] t.heap ∧ ap3 a h q1 q2) (va_A (cRS h q1 q2 cA cB tf ff cw td an qb pa) sz)) 1 2 (va_A (cRS h q1 q2 cA cB tf ff cw td an qb pa) sz) := by
  refine Met.ofW (cc := cX2_read) (maxL := 2) (ret := (some (.object "RealSteps$Real"))) (by decide) rfl ?_
  intro p e s m args below meth c s₁ B hml hv
  obtain ⟨rfl, hsz, hP, hK, hD0, hR0, hRp, hE⟩ := hv
  have hx := B.exec
  have hb := B.bytes
  have hr := B.returns
  have hts := atoms_spec (ws := wsX2_read) B.pre
  have hown : s.vm.findClass RX2 = some m.cls := findClass_of_methodNamed B.named
  have hlocks := B.notSynchronized
  have w_1 := hts (.classLink RX2 48 RX1) (by decide +kernel)
  have w_2 := hts (.instantiable RX1 2) (by decide +kernel)
  have w_3 := hts (.initialized RX1) (by decide +kernel)
  have in_X1 : ∀ w ∈ wsX10, w ∈ wsX2_read := by decide +kernel
  have w_5 := hts (.fieldLink RX2 9 "RealSteps" "tops" "[I") (by decide +kernel)
  have in_X2 : ∀ w ∈ wsX20, w ∈ wsX2_read := by decide +kernel
  have w_7 := hts (.fieldLink RX2 13 "RealSteps" "fractions" "[J") (by decide +kernel)
  have w_8 := hts (.instanceMethod yX1_init) (by decide +kernel)
  subst hsz
  have hD := hD0.self (sz := s.heap.size)
  have hRA := rs_A hR0 hRp (e1 := .inr (1, [.ref q1, .ref q2, .int cw, .int td, .int (bI an), .int qb, .int (bI pa)])) (e2 := .inl (cA, 8, .inl tf)) (e3 := .inl (cB, 8, .inr (.inl ff)))
  generalize hAe : va_A (cRS h q1 q2 cA cB tf ff cw td an qb pa) s.heap.size = A at hD hE hRA ⊢
  have hA : ∀ q : Nat, s.heap.size ≤ q → A q := fun q h => by rw [← hAe]; exact Or.inr h
  have hS : va_S A s.heap s.heap [] := va_S.rf
  have hP : va_P D vwCl (cRS h q1 q2 cA cB tf ff cw td an qb pa) s.heap := hP
  have hl := lv_entry ([.ref h, .int rg]) (n := 2) (Nat.le_of_ble_eq_true rfl)
  rw [lg_entry_eq]
  generalize (lg_sl ([.ref h, .int rg]) ++ List.replicate (2 - (lg_sl ([.ref h, .int rg])).length) Slot.unset).toArray = ls at hl ⊢
  have hl : lv_has ls 2 [(0, .ref h), (1, .int rg)] := hl
  refine va_new (ci := 0) (fs := [.int 0, .long 0]) (C := RX1) (T := TX1) (N := 2) hx hb hts in_X1 tyX1 tyX1_ok hown w_1 w_2 w_3 hK hP hD hS hA rfl (fun j hj => by rcases (show j = 0 ∨ j = 1 by omega) with rfl | rfl <;> rfl) (Nat.le_of_ble_eq_true rfl) (Nat.le_of_ble_eq_true rfl) dX2_read_0 (fun q_1 H hP4 hD4 hS => ?_)
  have hP : va_P D vwCl (cRS h q1 q2 cA cB tf ff cw td an qb pa) H := hP4.sub [0, 1, 2] rfl
  have hD : va_D A (cRS h q1 q2 cA cB tf ff cw td an qb pa) := hD4.sub [0, 1, 2] (by decide) rfl
  have nx_q_1 : ap3 q_1 h q1 q2 := ap_D hD4
  have hx_q_1 : va_P D vwCl [cReal q_1 0 0] H := hP4.sub [3] rfl
  have hd_q_1 : va_D A [cReal q_1 0 0] := hD4.sub [3] (by decide) rfl
  refine lv_dup hx hb dX2_read_3 rfl ?_
  refine lv_aload_n hx hb dX2_read_4 rfl (lv_at hl 0 rfl) ?_
  refine va_get (v := .ref q1) (C := RX2) (T := TX2) (N := 7) hx hb hts in_X2 hown hK hP 0 rfl rfl 0 (by decide) w_5 (fun _ h9 => h9) rfl dX2_read_5 ?_
  refine lv_iload_n hx hb dX2_read_8 rfl (lv_at hl 1 rfl) ?_
  refine va_iald hx hb hK hP 1 0 rfl rfl hrg dX2_read_9 ?_
  refine lv_aload_n hx hb dX2_read_10 rfl (lv_at hl 0 rfl) ?_
  refine va_get (v := .ref q2) (C := RX2) (T := TX2) (N := 7) hx hb hts in_X2 hown hK hP 0 rfl rfl 1 (by decide) w_7 (fun _ h9 => h9) rfl dX2_read_11 ?_
  refine lv_iload_n hx hb dX2_read_14 rfl (lv_at hl 1 rfl) ?_
  refine va_lald hx hb hK hP 2 1 rfl rfl hrg dX2_read_15 ?_
  have hFc := va_free (wc := [cReal q_1 0 0]) hd_q_1 hS hA [0] rfl
  refine va_callv (va_runIN (As := [.int (tf rg.toNatClampNeg), .long (ff rg.toNatClampNeg)]) (rest := [.ref q_1]) ⟨hx, hb, hml, hown, hts⟩ (c_X1_init l D q_1 (tf rg.toNatClampNeg) (ff rg.toNatClampNeg) H.size) ⟨va_cnB 2 hts gX2_read_X1_init_n52 rfl rfl rfl (hE.2.1 _ (List.mem_of_getElem? (i := 7) rfl)) w_3 kS_X1_init ⟨Nat.le_of_ble_eq_true rfl, Nat.le_of_ble_eq_true rfl⟩, rfl, w_8⟩ ⟨INB.blind, INB.pre (hK.sub [] rfl) hx_q_1 hd_q_1⟩ rfl rfl hl.1 rfl (lv_room (Nat.le_of_ble_eq_true rfl)) dX2_read_16 ⟨Nat.le_of_ble_eq_true rfl, Nat.le_of_ble_eq_true rfl⟩) hS (fun q _ h9 => hFc q h9) hFc (fun u9 t9 H locs ht hvm hw hB hz1 hk1 hS => ?_)
  have hx_q_1 : va_P D vwCl [cReal q_1 (tf rg.toNatClampNeg) (ff rg.toNatClampNeg)] H := by rw [← ht]; exact hB
  have hP : va_P D vwCl (cRS h q1 q2 cA cB tf ff cw td an qb pa) H := ro_init hP nx_q_1 hk1
  have hw : R_read (tf rg.toNatClampNeg) (ff rg.toNatClampNeg) = ((tf rg.toNatClampNeg), (ff rg.toNatClampNeg)) := rfl
  exact W.aret hx hb hr (Or.inl ⟨_, rfl⟩) (Or.inr ⟨_, rfl⟩) (fun t9 ht hW => ⟨⟨(), q_1, rfl, trivial, ⟨(tf rg.toNatClampNeg), (ff rg.toNatClampNeg), hw, by rw [ht]; exact hP, hD, by rw [ht]; exact hx_q_1, nx_q_1⟩⟩, hS.F ht⟩) hS.2.2 dX2_read_19
def R_write (tf : Nat → Int32) (ff : Nat → Int64) (rg : Int32) (ty : Int32) (fy : Int64) : (Nat → Int32) × (Nat → Int64) :=
  ((upd tf rg.toNatClampNeg ty), (vp_updL ff rg.toNatClampNeg fy))
theorem kS_X2_write : yX2_write.cls ≠ "java/lang/invoke/MethodHandle" ∧ yX2_write.cls ≠ "java/lang/invoke/VarHandle" ∧ (parseMethodDescriptor yX2_write.desc).map (fun d => d.parameters.length) = some 2 := by decide +kernel
theorem kV_X2_write : yX2_write.cls = RX2 ∧ yX2_write.cls ≠ "java/lang/invoke/MethodHandle" ∧ yX2_write.cls ≠ "java/lang/invoke/VarHandle" ∧ (parseMethodDescriptor yX2_write.desc).map (fun d => d.parameters.length) = some 2 := ⟨rfl, kS_X2_write⟩
set_option maxHeartbeats 4000000 in
set_option maxRecDepth 100000 in
theorem c_X2_write (l : Launch) (D : va_G) (ad : Nat → Nat) (h : Nat) (q1 : Nat) (q2 : Nat) (cA : ClassId) (cB : ClassId) (tf : Nat → Int32) (ff : Nat → Int64) (cw : Int32) (td : Int32) (an : Bool) (qb : Int32) (pa : Bool) (y : Nat) (ty : Int32) (fy : Int64) (rg : Int32) (sz : Nat) (hrg : vp_in rg 8) : Met l yX2_write wsX2_write ({ frames := 0, cells := 0, slots := 0, locals := 0 } : Room) (va_Pc [.ref h, .int rg, .ref y] (MRB D ad h q1 q2 (tRS cA cB) (cRS h q1 q2 cA cB tf ff cw td an qb pa) [cReal y ty fy] sz)) (va_Qv (fun (_ : Unit) => True) (fun _ t => ∃ (w_tf : Nat → Int32) (w_ff : Nat → Int64), R_write tf ff rg ty fy = (w_tf, w_ff) ∧ va_P D vwCl (cRS h q1 q2 cA cB w_tf w_ff cw td an qb pa) t.heap ∧ va_D (va_A (cRS h q1 q2 cA cB tf ff cw td an qb pa) sz) (cRS h q1 q2 cA cB w_tf w_ff cw td an qb pa)) (va_A (cRS h q1 q2 cA cB tf ff cw td an qb pa) sz)) 0 0 (va_A (cRS h q1 q2 cA cB tf ff cw td an qb pa) sz) := by
  refine Met.ofW (cc := cX2_write) (maxL := 3) (ret := none) (by decide) rfl ?_
  intro p e s m args below meth c s₁ B hml hv
  obtain ⟨rfl, hsz, hP, hK, hD0, hR0, hRp, hE⟩ := hv
  have hx := B.exec
  have hb := B.bytes
  have hr := B.returns
  have hts := atoms_spec (ws := wsX2_write) B.pre
  have hown : s.vm.findClass RX2 = some m.cls := findClass_of_methodNamed B.named
  have hlocks := B.notSynchronized
  have w_1 := hts (.fieldLink RX2 9 "RealSteps" "tops" "[I") (by decide +kernel)
  have in_X2 : ∀ w ∈ wsX20, w ∈ wsX2_write := by decide +kernel
  have in_X1 : ∀ w ∈ wsX10, w ∈ wsX2_write := by decide +kernel
  have w_4 := hts (.fieldLink RX2 13 "RealSteps" "fractions" "[J") (by decide +kernel)
  subst hsz
  have hD := hD0.self (sz := s.heap.size)
  have hRA := rs_A hR0 hRp (e1 := .inr (1, [.ref q1, .ref q2, .int cw, .int td, .int (bI an), .int qb, .int (bI pa)])) (e2 := .inl (cA, 8, .inl tf)) (e3 := .inl (cB, 8, .inr (.inl ff)))
  generalize hAe : va_A (cRS h q1 q2 cA cB tf ff cw td an qb pa) s.heap.size = A at hD hE hRA ⊢
  have hA : ∀ q : Nat, s.heap.size ≤ q → A q := fun q h => by rw [← hAe]; exact Or.inr h
  have hS : va_S A s.heap s.heap [] := va_S.rf
  have hP : va_P D vwCl (cRS h q1 q2 cA cB tf ff cw td an qb pa) s.heap := hP
  have hl := lv_entry ([.ref h, .int rg, .ref y]) (n := 3) (Nat.le_of_ble_eq_true rfl)
  rw [lg_entry_eq]
  generalize (lg_sl ([.ref h, .int rg, .ref y]) ++ List.replicate (3 - (lg_sl ([.ref h, .int rg, .ref y])).length) Slot.unset).toArray = ls at hl ⊢
  have hl : lv_has ls 3 [(0, .ref h), (1, .int rg), (2, .ref y)] := hl
  refine lv_aload_n hx hb dX2_write_0 rfl (lv_at hl 0 rfl) ?_
  refine va_get (v := .ref q1) (C := RX2) (T := TX2) (N := 7) hx hb hts in_X2 hown hK hP 0 rfl rfl 0 (by decide) w_1 (fun _ h9 => h9) rfl dX2_write_1 ?_
  refine lv_iload_n hx hb dX2_write_4 rfl (lv_at hl 1 rfl) ?_
  refine lv_aload_n hx hb dX2_write_5 rfl (lv_at hl 2 rfl) ?_
  refine va_getN (v := .int ty) (C := RX1) (T := TX1) (N := 2) hx hb hts in_X1 hown hK (ro_now hR0 hRA hS) 0 rfl rfl 0 (by decide) (va_Nw.use rfl (hE.2.1 (.fieldLinkNest RX2 147 "RealSteps$Real" "top" "I" RX2) (by decide))) (fun _ h9 => h9) rfl dX2_write_6 ?_
  refine va_iast hx hb hK hP hD hS 1 0 rfl rfl hrg dX2_write_9 (fun H locs hP hD hS => ?_)
  have hP : va_P D vwCl (cRS h q1 q2 cA cB (upd tf rg.toNatClampNeg ty) ff cw td an qb pa) H := hP
  have hD : va_D A (cRS h q1 q2 cA cB (upd tf rg.toNatClampNeg ty) ff cw td an qb pa) := hD
  refine lv_aload_n hx hb dX2_write_10 rfl (lv_at hl 0 rfl) ?_
  refine va_get (v := .ref q2) (C := RX2) (T := TX2) (N := 7) hx hb hts in_X2 hown hK hP 0 rfl rfl 1 (by decide) w_4 (fun _ h9 => h9) rfl dX2_write_11 ?_
  refine lv_iload_n hx hb dX2_write_14 rfl (lv_at hl 1 rfl) ?_
  refine lv_aload_n hx hb dX2_write_15 rfl (lv_at hl 2 rfl) ?_
  refine va_getN (v := .long fy) (C := RX1) (T := TX1) (N := 2) hx hb hts in_X1 hown hK (ro_now hR0 hRA hS) 0 rfl rfl 1 (by decide) (va_Nw.use rfl (hE.2.1 (.fieldLinkNest RX2 150 "RealSteps$Real" "fraction" "J" RX2) (by decide))) (fun _ h9 => h9) rfl dX2_write_16 ?_
  refine va_last hx hb hK hP hD hS 2 1 rfl rfl hrg dX2_write_19 (fun H locs hP hD hS => ?_)
  have hP : va_P D vwCl (cRS h q1 q2 cA cB (upd tf rg.toNatClampNeg ty) (vp_updL ff rg.toNatClampNeg fy) cw td an qb pa) H := hP
  have hD : va_D A (cRS h q1 q2 cA cB (upd tf rg.toNatClampNeg ty) (vp_updL ff rg.toNatClampNeg fy) cw td an qb pa) := hD
  have hw : R_write tf ff rg ty fy = ((upd tf rg.toNatClampNeg ty), (vp_updL ff rg.toNatClampNeg fy)) := rfl
  exact W.vret hx hb hr (fun t9 ht hW => ⟨⟨(), rfl, trivial, ⟨(upd tf rg.toNatClampNeg ty), (vp_updL ff rg.toNatClampNeg fy), hw, by rw [ht]; exact hP, hD⟩⟩, hS.F ht⟩) hS.2.2 dX2_write_20
def R_tell (cw : Int32) (td : Int32) (bit : Int32) : Int32 × Bool :=
  ((td ||| bit), (R_masked cw bit))
theorem kS_X2_tellAtFirst : yX2_tellAtFirst.cls ≠ "java/lang/invoke/MethodHandle" ∧ yX2_tellAtFirst.cls ≠ "java/lang/invoke/VarHandle" ∧ (parseMethodDescriptor yX2_tellAtFirst.desc).map (fun d => d.parameters.length) = some 1 := by decide +kernel
theorem kV_X2_tellAtFirst : yX2_tellAtFirst.cls = RX2 ∧ yX2_tellAtFirst.cls ≠ "java/lang/invoke/MethodHandle" ∧ yX2_tellAtFirst.cls ≠ "java/lang/invoke/VarHandle" ∧ (parseMethodDescriptor yX2_tellAtFirst.desc).map (fun d => d.parameters.length) = some 1 := ⟨rfl, kS_X2_tellAtFirst⟩
set_option maxHeartbeats 4000000 in
set_option maxRecDepth 100000 in
theorem c_X2_tellAtFirst (l : Launch) (D : va_G) (ad : Nat → Nat) (h : Nat) (q1 : Nat) (q2 : Nat) (cA : ClassId) (cB : ClassId) (tf : Nat → Int32) (ff : Nat → Int64) (cw : Int32) (td : Int32) (an : Bool) (qb : Int32) (pa : Bool) (bit : Int32) (sz : Nat) : Met l yX2_tellAtFirst wsX2_tellAtFirst ({ frames := 1, cells := 0, slots := 0, locals := 21 } : Room) (va_Pc [.ref h, .int bit] (MRB D ad h q1 q2 (tRS cA cB) (cRS h q1 q2 cA cB tf ff cw td an qb pa) [] sz)) (va_Qv (fun (_ : Unit) => True) (fun _ t => ∃ (w_td : Int32) (w_an : Bool), R_tell cw td bit = (w_td, w_an) ∧ va_P D vwCl (cRS h q1 q2 cA cB tf ff cw w_td w_an qb pa) t.heap ∧ va_D (va_A (cRS h q1 q2 cA cB tf ff cw td an qb pa) sz) (cRS h q1 q2 cA cB tf ff cw w_td w_an qb pa)) (va_A (cRS h q1 q2 cA cB tf ff cw td an qb pa) sz)) 0 0 (va_A (cRS h q1 q2 cA cB tf ff cw td an qb pa) sz) := by
  refine Met.ofW (cc := cX2_tellAtFirst) (maxL := 2) (ret := none) (by decide) rfl ?_
  intro p e s m args below meth c s₁ B hml hv
  obtain ⟨rfl, hsz, hP, hK, hD0, hR0, hRp, hE⟩ := hv
  have hx := B.exec
  have hb := B.bytes
  have hr := B.returns
  have hts := atoms_spec (ws := wsX2_tellAtFirst) B.pre
  have hown : s.vm.findClass RX2 = some m.cls := findClass_of_methodNamed B.named
  have hlocks := B.notSynchronized
  have w_1 := hts (.fieldLink RX2 21 "RealSteps" "toldBits" "I") (by decide +kernel)
  have in_X2 : ∀ w ∈ wsX20, w ∈ wsX2_tellAtFirst := by decide +kernel
  have w_3 := hts (.fieldLink RX2 24 "RealSteps" "answered" "Z") (by decide +kernel)
  subst hsz
  have hD := hD0.self (sz := s.heap.size)
  have hRA := rs_A hR0 hRp (e1 := .inr (1, [.ref q1, .ref q2, .int cw, .int td, .int (bI an), .int qb, .int (bI pa)])) (e2 := .inl (cA, 8, .inl tf)) (e3 := .inl (cB, 8, .inr (.inl ff)))
  generalize hAe : va_A (cRS h q1 q2 cA cB tf ff cw td an qb pa) s.heap.size = A at hD hE hRA ⊢
  have hA : ∀ q : Nat, s.heap.size ≤ q → A q := fun q h => by rw [← hAe]; exact Or.inr h
  have hS : va_S A s.heap s.heap [] := va_S.rf
  have hP : va_P D vwCl (cRS h q1 q2 cA cB tf ff cw td an qb pa) s.heap := hP
  have hl := lv_entry ([.ref h, .int bit]) (n := 2) (Nat.le_of_ble_eq_true rfl)
  rw [lg_entry_eq]
  generalize (lg_sl ([.ref h, .int bit]) ++ List.replicate (2 - (lg_sl ([.ref h, .int bit])).length) Slot.unset).toArray = ls at hl ⊢
  have hl : lv_has ls 2 [(0, .ref h), (1, .int bit)] := hl
  refine lv_aload_n hx hb dX2_tellAtFirst_0 rfl (lv_at hl 0 rfl) ?_
  refine lv_dup hx hb dX2_tellAtFirst_1 rfl ?_
  refine va_get (v := .int td) (C := RX2) (T := TX2) (N := 7) hx hb hts in_X2 hown hK hP 0 rfl rfl 3 (by decide) w_1 (fun _ h9 => h9) rfl dX2_tellAtFirst_2 ?_
  refine lv_iload_n hx hb dX2_tellAtFirst_5 rfl (lv_at hl 1 rfl) ?_
  refine lv_ior hx hb dX2_tellAtFirst_6 ?_
  refine va_put (v := .int (td ||| bit)) (ty := .int) (C := RX2) (T := TX2) (N := 7) hx hb hts in_X2 tyX2 tyX2_ok nmX2 hown hK hP hD hS 0 rfl rfl 3 (by decide) w_1 (fun _ h9 => h9) rfl (tyX2_ok 3 (by decide)) rfl rfl (Nat.le_of_ble_eq_true rfl) dX2_tellAtFirst_7 (fun H locs hP hD hS => ?_)
  have hP : va_P D vwCl (cRS h q1 q2 cA cB tf ff cw (td ||| bit) an qb pa) H := hP
  have hD : va_D A (cRS h q1 q2 cA cB tf ff cw (td ||| bit) an qb pa) := hD
  refine lv_aload_n hx hb dX2_tellAtFirst_10 rfl (lv_at hl 0 rfl) ?_
  refine lv_aload_n hx hb dX2_tellAtFirst_11 rfl (lv_at hl 0 rfl) ?_
  refine lv_iload_n hx hb dX2_tellAtFirst_12 rfl (lv_at hl 1 rfl) ?_
  refine vp_callSi (va_cr (va_runV (As := [.int bit]) (rest := [.ref h]) ⟨hx, hb, hml, hown, hts⟩ (c_X2_isMasked l D h q1 q2 cw (td ||| bit) an qb pa bit) (cwV 1 hts gX2_tellAtFirst_X2_isMasked rfl rfl rfl kV_X2_isMasked ⟨Nat.le_of_ble_eq_true rfl, Nat.le_of_ble_eq_true rfl⟩) ⟨PB.blind, va_recv hK hP (ci := 1) (q0 := 0) rfl rfl, PB.pre (hK.sub [] rfl) (hP.sub [0] rfl)⟩ rfl rfl hl.1 rfl (lv_room (Nat.le_of_ble_eq_true rfl)) dX2_tellAtFirst_13 ⟨Nat.le_of_ble_eq_true rfl, Nat.le_of_ble_eq_true rfl⟩)) (fun r9 e9 => ?_)
  rw [e9]
  refine va_put (v := .int (bI (R_masked cw bit))) (ty := .boolean) (C := RX2) (T := TX2) (N := 7) hx hb hts in_X2 tyX2 tyX2_ok nmX2 hown hK hP hD hS 0 rfl rfl 4 (by decide) w_3 (fun _ h9 => h9) rfl (tyX2_ok 4 (by decide)) (bI_nar _) (bI_fit _) (Nat.le_of_ble_eq_true rfl) dX2_tellAtFirst_16 (fun H locs hP hD hS => ?_)
  have hP : va_P D vwCl (cRS h q1 q2 cA cB tf ff cw (td ||| bit) (R_masked cw bit) qb pa) H := hP
  have hD : va_D A (cRS h q1 q2 cA cB tf ff cw (td ||| bit) (R_masked cw bit) qb pa) := hD
  have hw : R_tell cw td bit = ((td ||| bit), (R_masked cw bit)) := rfl
  exact W.vret hx hb hr (fun t9 ht hW => ⟨⟨(), rfl, trivial, ⟨(td ||| bit), (R_masked cw bit), hw, by rw [ht]; exact hP, hD⟩⟩, hS.F ht⟩) hS.2.2 dX2_tellAtFirst_19
def R_goesOn (cw : Int32) (tx : Int32) (fx : Int64) (ty : Int32) (fy : Int64) (im : Bool) (dv : Bool) : Bool × Int32 × Bool :=
  if bI (R_isOf tx fx 5) = 0 then (if bI (R_isOf ty fy 5) = 0 then (if bI im = 0 then (if bI (R_isOf tx fx 1) = 0 then (if bI (R_isOf ty fy 1) = 0 then (if bI dv = 0 then (true, 0, true)
            else (tup2 ((R_tell cw 0 4)) (fun otd_22 oan_23 =>
                (oan_23, otd_22, oan_23))))
          else (tup2 ((R_tell cw 0 2)) (fun otd_25 oan_26 =>
              if bI oan_26 = 0 then (oan_26, otd_25, oan_26)
              else if bI dv = 0 then (oan_26, otd_25, oan_26)
              else (tup2 ((R_tell cw otd_25 4)) (fun otd_30 oan_31 =>
                  (oan_31, otd_30, oan_31))))))
        else (tup2 ((R_tell cw 0 2)) (fun otd_11 oan_12 =>
            if bI oan_12 = 0 then (oan_12, otd_11, oan_12)
            else if bI dv = 0 then (oan_12, otd_11, oan_12)
            else (tup2 ((R_tell cw otd_11 4)) (fun otd_16 oan_17 =>
                (oan_17, otd_16, oan_17))))))
      else (tup2 ((R_tell cw 0 1)) (fun otd_33 oan_34 =>
          (false, otd_33, oan_34))))
    else (tup2 ((R_tell cw 0 1)) (fun otd_6 oan_7 =>
        (false, otd_6, oan_7))))
  else (tup2 ((R_tell cw 0 1)) (fun otd_2 oan_3 =>
      (false, otd_2, oan_3)))
theorem kS_X2_goesOn : yX2_goesOn.cls ≠ "java/lang/invoke/MethodHandle" ∧ yX2_goesOn.cls ≠ "java/lang/invoke/VarHandle" ∧ (parseMethodDescriptor yX2_goesOn.desc).map (fun d => d.parameters.length) = some 4 := by decide +kernel
theorem kV_X2_goesOn : yX2_goesOn.cls = RX2 ∧ yX2_goesOn.cls ≠ "java/lang/invoke/MethodHandle" ∧ yX2_goesOn.cls ≠ "java/lang/invoke/VarHandle" ∧ (parseMethodDescriptor yX2_goesOn.desc).map (fun d => d.parameters.length) = some 4 := ⟨rfl, kS_X2_goesOn⟩
set_option maxHeartbeats 4000000 in
set_option maxRecDepth 100000 in
theorem c_X2_goesOn (l : Launch) (D : va_G) (ad : Nat → Nat) (h : Nat) (q1 : Nat) (q2 : Nat) (cA : ClassId) (cB : ClassId) (tf : Nat → Int32) (ff : Nat → Int64) (cw : Int32) (td : Int32) (an : Bool) (qb : Int32) (pa : Bool) (x : Nat) (tx : Int32) (fx : Int64) (y : Nat) (ty : Int32) (fy : Int64) (im : Bool) (dv : Bool) (sz : Nat) : Met l yX2_goesOn wsX2_goesOn ({ frames := 3, cells := 0, slots := 0, locals := 62 } : Room) (va_Pc [.ref h, .ref x, .ref y, .int (bI im), .int (bI dv)] (MRB D ad h q1 q2 (tRS cA cB) (cRS h q1 q2 cA cB tf ff cw td an qb pa) [cReal x tx fx, cReal y ty fy] sz)) (va_Qi (fun (r : Int32) (u : Bool) => r = bI u) (fun u t => ∃ (w_td : Int32) (w_an : Bool), R_goesOn cw tx fx ty fy im dv = (u, w_td, w_an) ∧ va_P D vwCl (cRS h q1 q2 cA cB tf ff cw w_td w_an qb pa) t.heap ∧ va_D (va_A (cRS h q1 q2 cA cB tf ff cw td an qb pa) sz) (cRS h q1 q2 cA cB tf ff cw w_td w_an qb pa)) (va_A (cRS h q1 q2 cA cB tf ff cw td an qb pa) sz)) 0 0 (va_A (cRS h q1 q2 cA cB tf ff cw td an qb pa) sz) := by
  refine Met.ofW (cc := cX2_goesOn) (maxL := 5) (ret := (some .boolean)) (by decide) rfl ?_
  intro p e s m args below meth c s₁ B hml hv
  obtain ⟨rfl, hsz, hP, hK, hD0, hR0, hRp, hE⟩ := hv
  have hx := B.exec
  have hb := B.bytes
  have hr := B.returns
  have hts := atoms_spec (ws := wsX2_goesOn) B.pre
  have hown : s.vm.findClass RX2 = some m.cls := findClass_of_methodNamed B.named
  have hlocks := B.notSynchronized
  have w_1 := hts (.fieldLink RX2 21 "RealSteps" "toldBits" "I") (by decide +kernel)
  have in_X2 : ∀ w ∈ wsX20, w ∈ wsX2_goesOn := by decide +kernel
  have w_3 := hts (.fieldLink RX2 24 "RealSteps" "answered" "Z") (by decide +kernel)
  have w_4 := hts (.fieldLink RX2 154 "RealSteps$Kind" "NO_NUMBER" "LRealSteps$Kind;") (by decide +kernel)
  have w_5 := hts (.initialized RX1) (by decide +kernel)
  have w_6 := hts (.instanceMethod yX1_isOf) (by decide +kernel)
  have w_7 := hts (.selects RX1 yX1_isOf yX1_isOf) (by decide +kernel)
  have w_8 := hts (.fieldLink RX2 160 "RealSteps$Kind" "DENORMAL" "LRealSteps$Kind;") (by decide +kernel)
  subst hsz
  have hD := hD0.self (sz := s.heap.size)
  have hRA := rs_A hR0 hRp (e1 := .inr (1, [.ref q1, .ref q2, .int cw, .int td, .int (bI an), .int qb, .int (bI pa)])) (e2 := .inl (cA, 8, .inl tf)) (e3 := .inl (cB, 8, .inr (.inl ff)))
  generalize hAe : va_A (cRS h q1 q2 cA cB tf ff cw td an qb pa) s.heap.size = A at hD hE hRA ⊢
  have hA : ∀ q : Nat, s.heap.size ≤ q → A q := fun q h => by rw [← hAe]; exact Or.inr h
  have hS : va_S A s.heap s.heap [] := va_S.rf
  have hP : va_P D vwCl (cRS h q1 q2 cA cB tf ff cw td an qb pa) s.heap := hP
  have hl := lv_entry ([.ref h, .ref x, .ref y, .int (bI im), .int (bI dv)]) (n := 5) (Nat.le_of_ble_eq_true rfl)
  rw [lg_entry_eq]
  generalize (lg_sl ([.ref h, .ref x, .ref y, .int (bI im), .int (bI dv)]) ++ List.replicate (5 - (lg_sl ([.ref h, .ref x, .ref y, .int (bI im), .int (bI dv)])).length) Slot.unset).toArray = ls at hl ⊢
  have hl : lv_has ls 5 [(0, .ref h), (1, .ref x), (2, .ref y), (3, .int (bI im)), (4, .int (bI dv))] := hl
  refine lv_aload_n hx hb dX2_goesOn_0 rfl (lv_at hl 0 rfl) ?_
  refine lv_iconst (v := 0) hx hb dX2_goesOn_1 (by decide) ?_
  refine va_put (v := .int 0) (ty := .int) (C := RX2) (T := TX2) (N := 7) hx hb hts in_X2 tyX2 tyX2_ok nmX2 hown hK hP hD hS 0 rfl rfl 3 (by decide) w_1 (fun _ h9 => h9) rfl (tyX2_ok 3 (by decide)) rfl rfl (Nat.le_of_ble_eq_true rfl) dX2_goesOn_2 (fun H locs hP hD hS => ?_)
  have hP : va_P D vwCl (cRS h q1 q2 cA cB tf ff cw 0 an qb pa) H := hP
  have hD : va_D A (cRS h q1 q2 cA cB tf ff cw 0 an qb pa) := hD
  refine lv_aload_n hx hb dX2_goesOn_5 rfl (lv_at hl 0 rfl) ?_
  refine lv_iconst (v := 1) hx hb dX2_goesOn_6 (by decide) ?_
  refine va_put (v := .int 1) (ty := .boolean) (C := RX2) (T := TX2) (N := 7) hx hb hts in_X2 tyX2 tyX2_ok nmX2 hown hK hP hD hS 0 rfl rfl 4 (by decide) w_3 (fun _ h9 => h9) rfl (tyX2_ok 4 (by decide)) rfl rfl (Nat.le_of_ble_eq_true rfl) dX2_goesOn_7 (fun H locs hP hD hS => ?_)
  have hP : va_P D vwCl (cRS h q1 q2 cA cB tf ff cw 0 true qb pa) H := hP
  have hD : va_D A (cRS h q1 q2 cA cB tf ff cw 0 true qb pa) := hD
  refine lv_aload_n hx hb dX2_goesOn_10 rfl (lv_at hl 1 rfl) ?_
  refine va_gets (v := .ref (ad 5)) hx hb (hE.1.1 5 (by decide)).1 hS hown w_4 (fun _ h9 => h9) dX2_goesOn_11 ?_
  refine vp_callSi (va_cr (va_runVN (As := [.ref (ad 5)]) (rest := []) ⟨hx, hb, hml, hown, hts⟩ (c_X1_isOf l D ad x tx fx 5 (by decide)) ⟨va_cnB 1 hts gX2_goesOn_X1_isOf_n112 rfl rfl rfl (hE.2.1 _ (List.mem_of_getElem? (i := 0) rfl)) w_5 kS_X1_isOf ⟨Nat.le_of_ble_eq_true rfl, Nat.le_of_ble_eq_true rfl⟩, w_6, w_7⟩ ⟨EB.blind, va_recv hK (ro_now hR0 hRA hS) (ci := 0) (q0 := 0) rfl rfl, EB.pre (hK.sub [] rfl) ((ro_now hR0 hRA hS).sub [0] rfl) hE hS⟩ rfl rfl hl.1 rfl (lv_room (Nat.le_of_ble_eq_true rfl)) dX2_goesOn_14 ⟨Nat.le_of_ble_eq_true rfl, Nat.le_of_ble_eq_true rfl⟩)) (fun r9 e9 => ?_)
  rw [e9]
  refine lv_if_ne (tgt := 34) hx hb dX2_goesOn_17 (by decide) (fun c_1 => ?_) (fun c_1 => ?_)
  · refine lv_aload_n hx hb dX2_goesOn_34 rfl (lv_at hl 0 rfl) ?_
    refine lv_iconst (v := 1) hx hb dX2_goesOn_35 (by decide) ?_
    have hFc := va_free (wc := cRS h q1 q2 cA cB tf ff cw 0 true qb pa) hD hS hA [0, 1, 2] rfl
    refine va_callv (va_runV (As := [.int 1]) (rest := []) ⟨hx, hb, hml, hown, hts⟩ (c_X2_tellAtFirst l D ad h q1 q2 cA cB tf ff cw 0 true qb pa 1 H.size) (cwV 1 hts gX2_goesOn_X2_tellAtFirst rfl rfl rfl kV_X2_tellAtFirst ⟨Nat.le_of_ble_eq_true rfl, Nat.le_of_ble_eq_true rfl⟩) ⟨MRB.blind, va_recv hK hP (ci := 1) (q0 := 0) rfl rfl, MRB.pre hK hP hD vP_nil ap_nil hE hS hFc⟩ rfl rfl hl.1 rfl (lv_room (Nat.le_of_ble_eq_true rfl)) dX2_goesOn_36 ⟨Nat.le_of_ble_eq_true rfl, Nat.le_of_ble_eq_true rfl⟩) hS (fun q _ h9 => hFc q h9) hFc (fun u9 t9 H locs ht hvm hw hB hz1 hk1 hS => ?_)
    obtain ⟨otd_2, oan_3, e_4, hP, hD9⟩ := hB
    rw [ht] at hP
    have hD : va_D A (cRS h q1 q2 cA cB tf ff cw otd_2 oan_3 qb pa) := hD9.weaken (fun _ _ _ h => hFc _ h)
    refine lv_iconst (v := 0) hx hb dX2_goesOn_39 (by decide) ?_
    have hw : R_goesOn cw tx fx ty fy im dv = (false, otd_2, oan_3) := by unfold R_goesOn; rw [if_neg c_1, tup2_e e_4]; try rfl
    exact W.zret hx hb hr rfl (fun t9 ht hW => ⟨⟨_, false, rfl, rfl, ⟨otd_2, oan_3, hw, by rw [ht]; exact hP, hD⟩⟩, hS.F ht⟩) hS.2.2 dX2_goesOn_40
  · refine lv_aload_n hx hb dX2_goesOn_20 rfl (lv_at hl 2 rfl) ?_
    refine va_gets (v := .ref (ad 5)) hx hb (hE.1.1 5 (by decide)).1 hS hown w_4 (fun _ h9 => h9) dX2_goesOn_21 ?_
    refine vp_callSi (va_cr (va_runVN (As := [.ref (ad 5)]) (rest := []) ⟨hx, hb, hml, hown, hts⟩ (c_X1_isOf l D ad y ty fy 5 (by decide)) ⟨va_cnB 1 hts gX2_goesOn_X1_isOf_n112 rfl rfl rfl (hE.2.1 _ (List.mem_of_getElem? (i := 0) rfl)) w_5 kS_X1_isOf ⟨Nat.le_of_ble_eq_true rfl, Nat.le_of_ble_eq_true rfl⟩, w_6, w_7⟩ ⟨EB.blind, va_recv hK (ro_now hR0 hRA hS) (ci := 0) (q0 := 1) rfl rfl, EB.pre (hK.sub [] rfl) ((ro_now hR0 hRA hS).sub [1] rfl) hE hS⟩ rfl rfl hl.1 rfl (lv_room (Nat.le_of_ble_eq_true rfl)) dX2_goesOn_24 ⟨Nat.le_of_ble_eq_true rfl, Nat.le_of_ble_eq_true rfl⟩)) (fun r9 e9 => ?_)
    rw [e9]
    refine lv_if_ne (tgt := 34) hx hb dX2_goesOn_27 (by decide) (fun c_5 => ?_) (fun c_5 => ?_)
    · refine lv_aload_n hx hb dX2_goesOn_34 rfl (lv_at hl 0 rfl) ?_
      refine lv_iconst (v := 1) hx hb dX2_goesOn_35 (by decide) ?_
      have hFc := va_free (wc := cRS h q1 q2 cA cB tf ff cw 0 true qb pa) hD hS hA [0, 1, 2] rfl
      refine va_callv (va_runV (As := [.int 1]) (rest := []) ⟨hx, hb, hml, hown, hts⟩ (c_X2_tellAtFirst l D ad h q1 q2 cA cB tf ff cw 0 true qb pa 1 H.size) (cwV 1 hts gX2_goesOn_X2_tellAtFirst rfl rfl rfl kV_X2_tellAtFirst ⟨Nat.le_of_ble_eq_true rfl, Nat.le_of_ble_eq_true rfl⟩) ⟨MRB.blind, va_recv hK hP (ci := 1) (q0 := 0) rfl rfl, MRB.pre hK hP hD vP_nil ap_nil hE hS hFc⟩ rfl rfl hl.1 rfl (lv_room (Nat.le_of_ble_eq_true rfl)) dX2_goesOn_36 ⟨Nat.le_of_ble_eq_true rfl, Nat.le_of_ble_eq_true rfl⟩) hS (fun q _ h9 => hFc q h9) hFc (fun u9 t9 H locs ht hvm hw hB hz1 hk1 hS => ?_)
      obtain ⟨otd_6, oan_7, e_8, hP, hD9⟩ := hB
      rw [ht] at hP
      have hD : va_D A (cRS h q1 q2 cA cB tf ff cw otd_6 oan_7 qb pa) := hD9.weaken (fun _ _ _ h => hFc _ h)
      refine lv_iconst (v := 0) hx hb dX2_goesOn_39 (by decide) ?_
      have hw : R_goesOn cw tx fx ty fy im dv = (false, otd_6, oan_7) := by unfold R_goesOn; rw [if_pos c_1, if_neg c_5, tup2_e e_8]; try rfl
      exact W.zret hx hb hr rfl (fun t9 ht hW => ⟨⟨_, false, rfl, rfl, ⟨otd_6, oan_7, hw, by rw [ht]; exact hP, hD⟩⟩, hS.F ht⟩) hS.2.2 dX2_goesOn_40
    · refine lv_iload_n hx hb dX2_goesOn_30 rfl (lv_at hl 3 rfl) ?_
      refine lv_if_eq (tgt := 41) hx hb dX2_goesOn_31 (by decide) (fun c_9 => ?_) (fun c_9 => ?_)
      · refine lv_aload_n hx hb dX2_goesOn_41 rfl (lv_at hl 1 rfl) ?_
        refine va_gets (v := .ref (ad 1)) hx hb (hE.1.1 1 (by decide)).1 hS hown w_8 (fun _ h9 => h9) dX2_goesOn_42 ?_
        refine vp_callSi (va_cr (va_runVN (As := [.ref (ad 1)]) (rest := []) ⟨hx, hb, hml, hown, hts⟩ (c_X1_isOf l D ad x tx fx 1 (by decide)) ⟨va_cnB 1 hts gX2_goesOn_X1_isOf_n112 rfl rfl rfl (hE.2.1 _ (List.mem_of_getElem? (i := 0) rfl)) w_5 kS_X1_isOf ⟨Nat.le_of_ble_eq_true rfl, Nat.le_of_ble_eq_true rfl⟩, w_6, w_7⟩ ⟨EB.blind, va_recv hK (ro_now hR0 hRA hS) (ci := 0) (q0 := 0) rfl rfl, EB.pre (hK.sub [] rfl) ((ro_now hR0 hRA hS).sub [0] rfl) hE hS⟩ rfl rfl hl.1 rfl (lv_room (Nat.le_of_ble_eq_true rfl)) dX2_goesOn_45 ⟨Nat.le_of_ble_eq_true rfl, Nat.le_of_ble_eq_true rfl⟩)) (fun r9 e9 => ?_)
        rw [e9]
        refine lv_if_ne (tgt := 61) hx hb dX2_goesOn_48 (by decide) (fun c_10 => ?_) (fun c_10 => ?_)
        · refine lv_aload_n hx hb dX2_goesOn_61 rfl (lv_at hl 0 rfl) ?_
          refine lv_iconst (v := 2) hx hb dX2_goesOn_62 (by decide) ?_
          have hFc := va_free (wc := cRS h q1 q2 cA cB tf ff cw 0 true qb pa) hD hS hA [0, 1, 2] rfl
          refine va_callv (va_runV (As := [.int 2]) (rest := []) ⟨hx, hb, hml, hown, hts⟩ (c_X2_tellAtFirst l D ad h q1 q2 cA cB tf ff cw 0 true qb pa 2 H.size) (cwV 1 hts gX2_goesOn_X2_tellAtFirst rfl rfl rfl kV_X2_tellAtFirst ⟨Nat.le_of_ble_eq_true rfl, Nat.le_of_ble_eq_true rfl⟩) ⟨MRB.blind, va_recv hK hP (ci := 1) (q0 := 0) rfl rfl, MRB.pre hK hP hD vP_nil ap_nil hE hS hFc⟩ rfl rfl hl.1 rfl (lv_room (Nat.le_of_ble_eq_true rfl)) dX2_goesOn_63 ⟨Nat.le_of_ble_eq_true rfl, Nat.le_of_ble_eq_true rfl⟩) hS (fun q _ h9 => hFc q h9) hFc (fun u9 t9 H locs ht hvm hw hB hz1 hk1 hS => ?_)
          obtain ⟨otd_11, oan_12, e_13, hP, hD9⟩ := hB
          rw [ht] at hP
          have hD : va_D A (cRS h q1 q2 cA cB tf ff cw otd_11 oan_12 qb pa) := hD9.weaken (fun _ _ _ h => hFc _ h)
          refine lv_aload_n hx hb dX2_goesOn_66 rfl (lv_at hl 0 rfl) ?_
          refine va_get (v := .int (bI oan_12)) (C := RX2) (T := TX2) (N := 7) hx hb hts in_X2 hown hK hP 0 rfl rfl 4 (by decide) w_3 (fun _ h9 => h9) rfl dX2_goesOn_67 ?_
          refine lv_if_eq (tgt := 83) hx hb dX2_goesOn_70 (by decide) (fun c_14 => ?_) (fun c_14 => ?_)
          · refine lv_aload_n hx hb dX2_goesOn_83 rfl (lv_at hl 0 rfl) ?_
            refine va_get (v := .int (bI oan_12)) (C := RX2) (T := TX2) (N := 7) hx hb hts in_X2 hown hK hP 0 rfl rfl 4 (by decide) w_3 (fun _ h9 => h9) rfl dX2_goesOn_84 ?_
            have hw : R_goesOn cw tx fx ty fy im dv = (oan_12, otd_11, oan_12) := by unfold R_goesOn; rw [if_pos c_1, if_pos c_5, if_pos c_9, if_neg c_10, tup2_e e_13, if_pos c_14]; try rfl
            exact W.zret hx hb hr (bI_nar _) (fun t9 ht hW => ⟨⟨_, oan_12, rfl, rfl, ⟨otd_11, oan_12, hw, by rw [ht]; exact hP, hD⟩⟩, hS.F ht⟩) hS.2.2 dX2_goesOn_87
          · refine lv_iload hx hb dX2_goesOn_73 (lv_at hl 4 rfl) ?_
            refine lv_if_eq (tgt := 83) hx hb dX2_goesOn_75 (by decide) (fun c_15 => ?_) (fun c_15 => ?_)
            · refine lv_aload_n hx hb dX2_goesOn_83 rfl (lv_at hl 0 rfl) ?_
              refine va_get (v := .int (bI oan_12)) (C := RX2) (T := TX2) (N := 7) hx hb hts in_X2 hown hK hP 0 rfl rfl 4 (by decide) w_3 (fun _ h9 => h9) rfl dX2_goesOn_84 ?_
              have hw : R_goesOn cw tx fx ty fy im dv = (oan_12, otd_11, oan_12) := by unfold R_goesOn; rw [if_pos c_1, if_pos c_5, if_pos c_9, if_neg c_10, tup2_e e_13, if_neg c_14, if_pos c_15]; try rfl
              exact W.zret hx hb hr (bI_nar _) (fun t9 ht hW => ⟨⟨_, oan_12, rfl, rfl, ⟨otd_11, oan_12, hw, by rw [ht]; exact hP, hD⟩⟩, hS.F ht⟩) hS.2.2 dX2_goesOn_87
            · refine lv_aload_n hx hb dX2_goesOn_78 rfl (lv_at hl 0 rfl) ?_
              refine lv_iconst (v := 4) hx hb dX2_goesOn_79 (by decide) ?_
              have hFc := va_free (wc := cRS h q1 q2 cA cB tf ff cw otd_11 oan_12 qb pa) hD hS hA [0, 1, 2] rfl
              refine va_callv (va_runV (As := [.int 4]) (rest := []) ⟨hx, hb, hml, hown, hts⟩ (c_X2_tellAtFirst l D ad h q1 q2 cA cB tf ff cw otd_11 oan_12 qb pa 4 H.size) (cwV 1 hts gX2_goesOn_X2_tellAtFirst rfl rfl rfl kV_X2_tellAtFirst ⟨Nat.le_of_ble_eq_true rfl, Nat.le_of_ble_eq_true rfl⟩) ⟨MRB.blind, va_recv hK hP (ci := 1) (q0 := 0) rfl rfl, MRB.pre hK hP hD vP_nil ap_nil hE hS hFc⟩ rfl rfl hl.1 rfl (lv_room (Nat.le_of_ble_eq_true rfl)) dX2_goesOn_80 ⟨Nat.le_of_ble_eq_true rfl, Nat.le_of_ble_eq_true rfl⟩) hS (fun q _ h9 => hFc q h9) hFc (fun u9 t9 H locs ht hvm hw hB hz1 hk1 hS => ?_)
              obtain ⟨otd_16, oan_17, e_18, hP, hD9⟩ := hB
              rw [ht] at hP
              have hD : va_D A (cRS h q1 q2 cA cB tf ff cw otd_16 oan_17 qb pa) := hD9.weaken (fun _ _ _ h => hFc _ h)
              refine lv_aload_n hx hb dX2_goesOn_83 rfl (lv_at hl 0 rfl) ?_
              refine va_get (v := .int (bI oan_17)) (C := RX2) (T := TX2) (N := 7) hx hb hts in_X2 hown hK hP 0 rfl rfl 4 (by decide) w_3 (fun _ h9 => h9) rfl dX2_goesOn_84 ?_
              have hw : R_goesOn cw tx fx ty fy im dv = (oan_17, otd_16, oan_17) := by unfold R_goesOn; rw [if_pos c_1, if_pos c_5, if_pos c_9, if_neg c_10, tup2_e e_13, if_neg c_14, if_neg c_15, tup2_e e_18]; try rfl
              exact W.zret hx hb hr (bI_nar _) (fun t9 ht hW => ⟨⟨_, oan_17, rfl, rfl, ⟨otd_16, oan_17, hw, by rw [ht]; exact hP, hD⟩⟩, hS.F ht⟩) hS.2.2 dX2_goesOn_87
        · refine lv_aload_n hx hb dX2_goesOn_51 rfl (lv_at hl 2 rfl) ?_
          refine va_gets (v := .ref (ad 1)) hx hb (hE.1.1 1 (by decide)).1 hS hown w_8 (fun _ h9 => h9) dX2_goesOn_52 ?_
          refine vp_callSi (va_cr (va_runVN (As := [.ref (ad 1)]) (rest := []) ⟨hx, hb, hml, hown, hts⟩ (c_X1_isOf l D ad y ty fy 1 (by decide)) ⟨va_cnB 1 hts gX2_goesOn_X1_isOf_n112 rfl rfl rfl (hE.2.1 _ (List.mem_of_getElem? (i := 0) rfl)) w_5 kS_X1_isOf ⟨Nat.le_of_ble_eq_true rfl, Nat.le_of_ble_eq_true rfl⟩, w_6, w_7⟩ ⟨EB.blind, va_recv hK (ro_now hR0 hRA hS) (ci := 0) (q0 := 1) rfl rfl, EB.pre (hK.sub [] rfl) ((ro_now hR0 hRA hS).sub [1] rfl) hE hS⟩ rfl rfl hl.1 rfl (lv_room (Nat.le_of_ble_eq_true rfl)) dX2_goesOn_55 ⟨Nat.le_of_ble_eq_true rfl, Nat.le_of_ble_eq_true rfl⟩)) (fun r9 e9 => ?_)
          rw [e9]
          refine lv_if_eq (tgt := 66) hx hb dX2_goesOn_58 (by decide) (fun c_19 => ?_) (fun c_19 => ?_)
          · refine lv_aload_n hx hb dX2_goesOn_66 rfl (lv_at hl 0 rfl) ?_
            refine va_get (v := .int (bI true)) (C := RX2) (T := TX2) (N := 7) hx hb hts in_X2 hown hK hP 0 rfl rfl 4 (by decide) w_3 (fun _ h9 => h9) rfl dX2_goesOn_67 ?_
            refine lv_if_eq (tgt := 83) hx hb dX2_goesOn_70 (by decide) (fun c_20 => ?_) (fun c_20 => ?_)
            · exact absurd c_20 (by decide)
            · refine lv_iload hx hb dX2_goesOn_73 (lv_at hl 4 rfl) ?_
              refine lv_if_eq (tgt := 83) hx hb dX2_goesOn_75 (by decide) (fun c_21 => ?_) (fun c_21 => ?_)
              · refine lv_aload_n hx hb dX2_goesOn_83 rfl (lv_at hl 0 rfl) ?_
                refine va_get (v := .int (bI true)) (C := RX2) (T := TX2) (N := 7) hx hb hts in_X2 hown hK hP 0 rfl rfl 4 (by decide) w_3 (fun _ h9 => h9) rfl dX2_goesOn_84 ?_
                have hw : R_goesOn cw tx fx ty fy im dv = (true, 0, true) := by unfold R_goesOn; rw [if_pos c_1, if_pos c_5, if_pos c_9, if_pos c_10, if_pos c_19, if_pos c_21]; try rfl
                exact W.zret hx hb hr (bI_nar _) (fun t9 ht hW => ⟨⟨_, true, rfl, rfl, ⟨0, true, hw, by rw [ht]; exact hP, hD⟩⟩, hS.F ht⟩) hS.2.2 dX2_goesOn_87
              · refine lv_aload_n hx hb dX2_goesOn_78 rfl (lv_at hl 0 rfl) ?_
                refine lv_iconst (v := 4) hx hb dX2_goesOn_79 (by decide) ?_
                have hFc := va_free (wc := cRS h q1 q2 cA cB tf ff cw 0 true qb pa) hD hS hA [0, 1, 2] rfl
                refine va_callv (va_runV (As := [.int 4]) (rest := []) ⟨hx, hb, hml, hown, hts⟩ (c_X2_tellAtFirst l D ad h q1 q2 cA cB tf ff cw 0 true qb pa 4 H.size) (cwV 1 hts gX2_goesOn_X2_tellAtFirst rfl rfl rfl kV_X2_tellAtFirst ⟨Nat.le_of_ble_eq_true rfl, Nat.le_of_ble_eq_true rfl⟩) ⟨MRB.blind, va_recv hK hP (ci := 1) (q0 := 0) rfl rfl, MRB.pre hK hP hD vP_nil ap_nil hE hS hFc⟩ rfl rfl hl.1 rfl (lv_room (Nat.le_of_ble_eq_true rfl)) dX2_goesOn_80 ⟨Nat.le_of_ble_eq_true rfl, Nat.le_of_ble_eq_true rfl⟩) hS (fun q _ h9 => hFc q h9) hFc (fun u9 t9 H locs ht hvm hw hB hz1 hk1 hS => ?_)
                obtain ⟨otd_22, oan_23, e_24, hP, hD9⟩ := hB
                rw [ht] at hP
                have hD : va_D A (cRS h q1 q2 cA cB tf ff cw otd_22 oan_23 qb pa) := hD9.weaken (fun _ _ _ h => hFc _ h)
                refine lv_aload_n hx hb dX2_goesOn_83 rfl (lv_at hl 0 rfl) ?_
                refine va_get (v := .int (bI oan_23)) (C := RX2) (T := TX2) (N := 7) hx hb hts in_X2 hown hK hP 0 rfl rfl 4 (by decide) w_3 (fun _ h9 => h9) rfl dX2_goesOn_84 ?_
                have hw : R_goesOn cw tx fx ty fy im dv = (oan_23, otd_22, oan_23) := by unfold R_goesOn; rw [if_pos c_1, if_pos c_5, if_pos c_9, if_pos c_10, if_pos c_19, if_neg c_21, tup2_e e_24]; try rfl
                exact W.zret hx hb hr (bI_nar _) (fun t9 ht hW => ⟨⟨_, oan_23, rfl, rfl, ⟨otd_22, oan_23, hw, by rw [ht]; exact hP, hD⟩⟩, hS.F ht⟩) hS.2.2 dX2_goesOn_87
          · refine lv_aload_n hx hb dX2_goesOn_61 rfl (lv_at hl 0 rfl) ?_
            refine lv_iconst (v := 2) hx hb dX2_goesOn_62 (by decide) ?_
            have hFc := va_free (wc := cRS h q1 q2 cA cB tf ff cw 0 true qb pa) hD hS hA [0, 1, 2] rfl
            refine va_callv (va_runV (As := [.int 2]) (rest := []) ⟨hx, hb, hml, hown, hts⟩ (c_X2_tellAtFirst l D ad h q1 q2 cA cB tf ff cw 0 true qb pa 2 H.size) (cwV 1 hts gX2_goesOn_X2_tellAtFirst rfl rfl rfl kV_X2_tellAtFirst ⟨Nat.le_of_ble_eq_true rfl, Nat.le_of_ble_eq_true rfl⟩) ⟨MRB.blind, va_recv hK hP (ci := 1) (q0 := 0) rfl rfl, MRB.pre hK hP hD vP_nil ap_nil hE hS hFc⟩ rfl rfl hl.1 rfl (lv_room (Nat.le_of_ble_eq_true rfl)) dX2_goesOn_63 ⟨Nat.le_of_ble_eq_true rfl, Nat.le_of_ble_eq_true rfl⟩) hS (fun q _ h9 => hFc q h9) hFc (fun u9 t9 H locs ht hvm hw hB hz1 hk1 hS => ?_)
            obtain ⟨otd_25, oan_26, e_27, hP, hD9⟩ := hB
            rw [ht] at hP
            have hD : va_D A (cRS h q1 q2 cA cB tf ff cw otd_25 oan_26 qb pa) := hD9.weaken (fun _ _ _ h => hFc _ h)
            refine lv_aload_n hx hb dX2_goesOn_66 rfl (lv_at hl 0 rfl) ?_
            refine va_get (v := .int (bI oan_26)) (C := RX2) (T := TX2) (N := 7) hx hb hts in_X2 hown hK hP 0 rfl rfl 4 (by decide) w_3 (fun _ h9 => h9) rfl dX2_goesOn_67 ?_
            refine lv_if_eq (tgt := 83) hx hb dX2_goesOn_70 (by decide) (fun c_28 => ?_) (fun c_28 => ?_)
            · refine lv_aload_n hx hb dX2_goesOn_83 rfl (lv_at hl 0 rfl) ?_
              refine va_get (v := .int (bI oan_26)) (C := RX2) (T := TX2) (N := 7) hx hb hts in_X2 hown hK hP 0 rfl rfl 4 (by decide) w_3 (fun _ h9 => h9) rfl dX2_goesOn_84 ?_
              have hw : R_goesOn cw tx fx ty fy im dv = (oan_26, otd_25, oan_26) := by unfold R_goesOn; rw [if_pos c_1, if_pos c_5, if_pos c_9, if_pos c_10, if_neg c_19, tup2_e e_27, if_pos c_28]; try rfl
              exact W.zret hx hb hr (bI_nar _) (fun t9 ht hW => ⟨⟨_, oan_26, rfl, rfl, ⟨otd_25, oan_26, hw, by rw [ht]; exact hP, hD⟩⟩, hS.F ht⟩) hS.2.2 dX2_goesOn_87
            · refine lv_iload hx hb dX2_goesOn_73 (lv_at hl 4 rfl) ?_
              refine lv_if_eq (tgt := 83) hx hb dX2_goesOn_75 (by decide) (fun c_29 => ?_) (fun c_29 => ?_)
              · refine lv_aload_n hx hb dX2_goesOn_83 rfl (lv_at hl 0 rfl) ?_
                refine va_get (v := .int (bI oan_26)) (C := RX2) (T := TX2) (N := 7) hx hb hts in_X2 hown hK hP 0 rfl rfl 4 (by decide) w_3 (fun _ h9 => h9) rfl dX2_goesOn_84 ?_
                have hw : R_goesOn cw tx fx ty fy im dv = (oan_26, otd_25, oan_26) := by unfold R_goesOn; rw [if_pos c_1, if_pos c_5, if_pos c_9, if_pos c_10, if_neg c_19, tup2_e e_27, if_neg c_28, if_pos c_29]; try rfl
                exact W.zret hx hb hr (bI_nar _) (fun t9 ht hW => ⟨⟨_, oan_26, rfl, rfl, ⟨otd_25, oan_26, hw, by rw [ht]; exact hP, hD⟩⟩, hS.F ht⟩) hS.2.2 dX2_goesOn_87
              · refine lv_aload_n hx hb dX2_goesOn_78 rfl (lv_at hl 0 rfl) ?_
                refine lv_iconst (v := 4) hx hb dX2_goesOn_79 (by decide) ?_
                have hFc := va_free (wc := cRS h q1 q2 cA cB tf ff cw otd_25 oan_26 qb pa) hD hS hA [0, 1, 2] rfl
                refine va_callv (va_runV (As := [.int 4]) (rest := []) ⟨hx, hb, hml, hown, hts⟩ (c_X2_tellAtFirst l D ad h q1 q2 cA cB tf ff cw otd_25 oan_26 qb pa 4 H.size) (cwV 1 hts gX2_goesOn_X2_tellAtFirst rfl rfl rfl kV_X2_tellAtFirst ⟨Nat.le_of_ble_eq_true rfl, Nat.le_of_ble_eq_true rfl⟩) ⟨MRB.blind, va_recv hK hP (ci := 1) (q0 := 0) rfl rfl, MRB.pre hK hP hD vP_nil ap_nil hE hS hFc⟩ rfl rfl hl.1 rfl (lv_room (Nat.le_of_ble_eq_true rfl)) dX2_goesOn_80 ⟨Nat.le_of_ble_eq_true rfl, Nat.le_of_ble_eq_true rfl⟩) hS (fun q _ h9 => hFc q h9) hFc (fun u9 t9 H locs ht hvm hw hB hz1 hk1 hS => ?_)
                obtain ⟨otd_30, oan_31, e_32, hP, hD9⟩ := hB
                rw [ht] at hP
                have hD : va_D A (cRS h q1 q2 cA cB tf ff cw otd_30 oan_31 qb pa) := hD9.weaken (fun _ _ _ h => hFc _ h)
                refine lv_aload_n hx hb dX2_goesOn_83 rfl (lv_at hl 0 rfl) ?_
                refine va_get (v := .int (bI oan_31)) (C := RX2) (T := TX2) (N := 7) hx hb hts in_X2 hown hK hP 0 rfl rfl 4 (by decide) w_3 (fun _ h9 => h9) rfl dX2_goesOn_84 ?_
                have hw : R_goesOn cw tx fx ty fy im dv = (oan_31, otd_30, oan_31) := by unfold R_goesOn; rw [if_pos c_1, if_pos c_5, if_pos c_9, if_pos c_10, if_neg c_19, tup2_e e_27, if_neg c_28, if_neg c_29, tup2_e e_32]; try rfl
                exact W.zret hx hb hr (bI_nar _) (fun t9 ht hW => ⟨⟨_, oan_31, rfl, rfl, ⟨otd_30, oan_31, hw, by rw [ht]; exact hP, hD⟩⟩, hS.F ht⟩) hS.2.2 dX2_goesOn_87
      · refine lv_aload_n hx hb dX2_goesOn_34 rfl (lv_at hl 0 rfl) ?_
        refine lv_iconst (v := 1) hx hb dX2_goesOn_35 (by decide) ?_
        have hFc := va_free (wc := cRS h q1 q2 cA cB tf ff cw 0 true qb pa) hD hS hA [0, 1, 2] rfl
        refine va_callv (va_runV (As := [.int 1]) (rest := []) ⟨hx, hb, hml, hown, hts⟩ (c_X2_tellAtFirst l D ad h q1 q2 cA cB tf ff cw 0 true qb pa 1 H.size) (cwV 1 hts gX2_goesOn_X2_tellAtFirst rfl rfl rfl kV_X2_tellAtFirst ⟨Nat.le_of_ble_eq_true rfl, Nat.le_of_ble_eq_true rfl⟩) ⟨MRB.blind, va_recv hK hP (ci := 1) (q0 := 0) rfl rfl, MRB.pre hK hP hD vP_nil ap_nil hE hS hFc⟩ rfl rfl hl.1 rfl (lv_room (Nat.le_of_ble_eq_true rfl)) dX2_goesOn_36 ⟨Nat.le_of_ble_eq_true rfl, Nat.le_of_ble_eq_true rfl⟩) hS (fun q _ h9 => hFc q h9) hFc (fun u9 t9 H locs ht hvm hw hB hz1 hk1 hS => ?_)
        obtain ⟨otd_33, oan_34, e_35, hP, hD9⟩ := hB
        rw [ht] at hP
        have hD : va_D A (cRS h q1 q2 cA cB tf ff cw otd_33 oan_34 qb pa) := hD9.weaken (fun _ _ _ h => hFc _ h)
        refine lv_iconst (v := 0) hx hb dX2_goesOn_39 (by decide) ?_
        have hw : R_goesOn cw tx fx ty fy im dv = (false, otd_33, oan_34) := by unfold R_goesOn; rw [if_pos c_1, if_pos c_5, if_neg c_9, tup2_e e_35]; try rfl
        exact W.zret hx hb hr rfl (fun t9 ht hW => ⟨⟨_, false, rfl, rfl, ⟨otd_33, oan_34, hw, by rw [ht]; exact hP, hD⟩⟩, hS.F ht⟩) hS.2.2 dX2_goesOn_40
def R_makeUnder (cw : Int32) (td : Int32) (ng : Bool) (ex : Int32) (nm : Int64) : Int32 × Int64 × Int32 :=
  if bI (R_masked cw 16) = 0 then (tup2 ((R_normal ng (ex + 24576) nm)) (fun vt_8 vf_9 =>
      (vt_8, vf_9, (td ||| 16))))
  else if bI (R_isCut nm ((-16382) - ex)) = 0 then (((R_signOf ng) ||| (bI (if (R_rounded cw ng nm ((-16382) - ex)) < 0 then true else false))), (R_rounded cw ng nm ((-16382) - ex)), td)
  else (((R_signOf ng) ||| (bI (if (R_rounded cw ng nm ((-16382) - ex)) < 0 then true else false))), (R_rounded cw ng nm ((-16382) - ex)), (td ||| 48))
theorem kS_X2_makeUnder : yX2_makeUnder.cls ≠ "java/lang/invoke/MethodHandle" ∧ yX2_makeUnder.cls ≠ "java/lang/invoke/VarHandle" ∧ (parseMethodDescriptor yX2_makeUnder.desc).map (fun d => d.parameters.length) = some 3 := by decide +kernel
theorem kV_X2_makeUnder : yX2_makeUnder.cls = RX2 ∧ yX2_makeUnder.cls ≠ "java/lang/invoke/MethodHandle" ∧ yX2_makeUnder.cls ≠ "java/lang/invoke/VarHandle" ∧ (parseMethodDescriptor yX2_makeUnder.desc).map (fun d => d.parameters.length) = some 3 := ⟨rfl, kS_X2_makeUnder⟩
set_option maxHeartbeats 4000000 in
set_option maxRecDepth 100000 in
theorem c_X2_makeUnder (l : Launch) (D : va_G) (ad : Nat → Nat) (h : Nat) (q1 : Nat) (q2 : Nat) (cA : ClassId) (cB : ClassId) (tf : Nat → Int32) (ff : Nat → Int64) (cw : Int32) (td : Int32) (an : Bool) (qb : Int32) (pa : Bool) (ng : Bool) (ex : Int32) (nm : Int64) (sz : Nat) : Met l yX2_makeUnder wsX2_makeUnder ({ frames := 5, cells := 1, slots := 2, locals := 126 } : Room) (va_Pc [.ref h, .int (bI ng), .int ex, .long nm] (MRB D ad h q1 q2 (tRS cA cB) (cRS h q1 q2 cA cB tf ff cw td an qb pa) [] sz)) (va_Qr (fun (_ : Unit) => True) (fun _ a t => ∃ (w_t : Int32) (w_f : Int64) (w_td : Int32), R_makeUnder cw td ng ex nm = (w_t, w_f, w_td) ∧ va_P D vwCl (cRS h q1 q2 cA cB tf ff cw w_td an qb pa) t.heap ∧ va_D (va_A (cRS h q1 q2 cA cB tf ff cw td an qb pa) sz) (cRS h q1 q2 cA cB tf ff cw w_td an qb pa) ∧ va_P D vwCl [cReal a w_t w_f] t.heap ∧ ap3 a h q1 q2) (va_A (cRS h q1 q2 cA cB tf ff cw td an qb pa) sz)) 1 2 (va_A (cRS h q1 q2 cA cB tf ff cw td an qb pa) sz) := by
  refine Met.ofW (cc := cX2_makeUnder) (maxL := 8) (ret := (some (.object "RealSteps$Real"))) (by decide) rfl ?_
  intro p e s m args below meth c s₁ B hml hv
  obtain ⟨rfl, hsz, hP, hK, hD0, hR0, hRp, hE⟩ := hv
  have hx := B.exec
  have hb := B.bytes
  have hr := B.returns
  have hts := atoms_spec (ws := wsX2_makeUnder) B.pre
  have hown : s.vm.findClass RX2 = some m.cls := findClass_of_methodNamed B.named
  have hlocks := B.notSynchronized
  have w_1 := hts (.classLink RX2 48 RX1) (by decide +kernel)
  have w_2 := hts (.instantiable RX1 2) (by decide +kernel)
  have w_3 := hts (.initialized RX1) (by decide +kernel)
  have in_X1 : ∀ w ∈ wsX10, w ∈ wsX2_makeUnder := by decide +kernel
  have w_5 := hts (.instanceMethod yX1_init) (by decide +kernel)
  have w_6 := hts (.fieldLink RX2 21 "RealSteps" "toldBits" "I") (by decide +kernel)
  have in_X2 : ∀ w ∈ wsX20, w ∈ wsX2_makeUnder := by decide +kernel
  subst hsz
  have hD := hD0.self (sz := s.heap.size)
  have hRA := rs_A hR0 hRp (e1 := .inr (1, [.ref q1, .ref q2, .int cw, .int td, .int (bI an), .int qb, .int (bI pa)])) (e2 := .inl (cA, 8, .inl tf)) (e3 := .inl (cB, 8, .inr (.inl ff)))
  generalize hAe : va_A (cRS h q1 q2 cA cB tf ff cw td an qb pa) s.heap.size = A at hD hE hRA ⊢
  have hA : ∀ q : Nat, s.heap.size ≤ q → A q := fun q h => by rw [← hAe]; exact Or.inr h
  have hS : va_S A s.heap s.heap [] := va_S.rf
  have hP : va_P D vwCl (cRS h q1 q2 cA cB tf ff cw td an qb pa) s.heap := hP
  have hl := lv_entry ([.ref h, .int (bI ng), .int ex, .long nm]) (n := 8) (Nat.le_of_ble_eq_true rfl)
  rw [lg_entry_eq]
  generalize (lg_sl ([.ref h, .int (bI ng), .int ex, .long nm]) ++ List.replicate (8 - (lg_sl ([.ref h, .int (bI ng), .int ex, .long nm])).length) Slot.unset).toArray = ls at hl ⊢
  have hl : lv_has ls 8 [(0, .ref h), (1, .int (bI ng)), (2, .int ex), (3, .long nm)] := hl
  refine lv_aload_n hx hb dX2_makeUnder_0 rfl (lv_at hl 0 rfl) ?_
  refine lv_bipush (v := 16) hx hb dX2_makeUnder_1 (by decide) ?_
  refine vp_callSi (va_cr (va_runV (As := [.int 16]) (rest := []) ⟨hx, hb, hml, hown, hts⟩ (c_X2_isMasked l D h q1 q2 cw td an qb pa 16) (cwV 1 hts gX2_makeUnder_X2_isMasked rfl rfl rfl kV_X2_isMasked ⟨Nat.le_of_ble_eq_true rfl, Nat.le_of_ble_eq_true rfl⟩) ⟨PB.blind, va_recv hK hP (ci := 1) (q0 := 0) rfl rfl, PB.pre (hK.sub [] rfl) (hP.sub [0] rfl)⟩ rfl rfl hl.1 rfl (lv_room (Nat.le_of_ble_eq_true rfl)) dX2_makeUnder_3 ⟨Nat.le_of_ble_eq_true rfl, Nat.le_of_ble_eq_true rfl⟩)) (fun r9 e9 => ?_)
  rw [e9]
  refine lv_if_ne (tgt := 31) hx hb dX2_makeUnder_6 (by decide) (fun c_1 => ?_) (fun c_1 => ?_)
  · refine lv_sipush (v := (-16382)) hx hb dX2_makeUnder_31 (by decide) ?_
    refine lv_iload_n hx hb dX2_makeUnder_34 rfl (lv_at hl 2 rfl) ?_
    refine lv_isub hx hb dX2_makeUnder_35 ?_
    refine lv_istore (lv' := [(5, .int ((-16382) - ex)), (0, .ref h), (1, .int (bI ng)), (2, .int ex), (3, .long nm)]) hx hb dX2_makeUnder_36 hl (by decide) rfl (fun ls hl => ?_)
    refine lv_lload_n hx hb dX2_makeUnder_38 rfl (lv_at hl 4 rfl) ?_
    refine lv_iload hx hb dX2_makeUnder_39 (lv_at hl 0 rfl) ?_
    refine vp_callSi (va_cr (va_runS (As := [.long nm, .int ((-16382) - ex)]) (rest := []) ⟨hx, hb, hml, hown, hts⟩ (c_X2_isCut l nm ((-16382) - ex)) (va_cwS 2 hts gX2_makeUnder_X2_isCut rfl rfl rfl kS_X2_isCut ⟨Nat.le_of_ble_eq_true rfl, Nat.le_of_ble_eq_true rfl⟩) ⟨TB.blind, TB.pre⟩ rfl rfl hl.1 rfl (lv_room (Nat.le_of_ble_eq_true rfl)) dX2_makeUnder_41 ⟨Nat.le_of_ble_eq_true rfl, Nat.le_of_ble_eq_true rfl⟩)) (fun r9 e9 => ?_)
    rw [e9]
    refine lv_if_eq (tgt := 58) hx hb dX2_makeUnder_44 (by decide) (fun c_2 => ?_) (fun c_2 => ?_)
    · refine lv_aload_n hx hb dX2_makeUnder_58 rfl (lv_at hl 1 rfl) ?_
      refine lv_iload_n hx hb dX2_makeUnder_59 rfl (lv_at hl 2 rfl) ?_
      refine lv_lload_n hx hb dX2_makeUnder_60 rfl (lv_at hl 4 rfl) ?_
      refine lv_iload hx hb dX2_makeUnder_61 (lv_at hl 0 rfl) ?_
      refine vp_callSl (va_cr (va_runV (As := [.int (bI ng), .long nm, .int ((-16382) - ex)]) (rest := []) ⟨hx, hb, hml, hown, hts⟩ (c_X2_rounded l D h q1 q2 cw td an qb pa ng nm ((-16382) - ex)) (cwV 3 hts gX2_makeUnder_X2_rounded rfl rfl rfl kV_X2_rounded ⟨Nat.le_of_ble_eq_true rfl, Nat.le_of_ble_eq_true rfl⟩) ⟨PB.blind, va_recv hK hP (ci := 1) (q0 := 0) rfl rfl, PB.pre (hK.sub [] rfl) (hP.sub [0] rfl)⟩ rfl rfl hl.1 rfl (lv_room (Nat.le_of_ble_eq_true rfl)) dX2_makeUnder_63 ⟨Nat.le_of_ble_eq_true rfl, Nat.le_of_ble_eq_true rfl⟩)) (fun r9 e9 => ?_)
      rw [e9]
      refine lv_lstore (lv' := [(6, .long (R_rounded cw ng nm ((-16382) - ex))), (5, .int ((-16382) - ex)), (0, .ref h), (1, .int (bI ng)), (2, .int ex), (3, .long nm)]) hx hb dX2_makeUnder_66 hl (by decide) rfl (fun ls hl => ?_)
      refine va_new (ci := 0) (fs := [.int 0, .long 0]) (C := RX1) (T := TX1) (N := 2) hx hb hts in_X1 tyX1 tyX1_ok hown w_1 w_2 w_3 hK hP hD hS hA rfl (fun j hj => by rcases (show j = 0 ∨ j = 1 by omega) with rfl | rfl <;> rfl) (Nat.le_of_ble_eq_true rfl) (Nat.le_of_ble_eq_true rfl) dX2_makeUnder_68 (fun q_3 H hP4 hD4 hS => ?_)
      have hP : va_P D vwCl (cRS h q1 q2 cA cB tf ff cw td an qb pa) H := hP4.sub [0, 1, 2] rfl
      have hD : va_D A (cRS h q1 q2 cA cB tf ff cw td an qb pa) := hD4.sub [0, 1, 2] (by decide) rfl
      have nx_q_3 : ap3 q_3 h q1 q2 := ap_D hD4
      have hx_q_3 : va_P D vwCl [cReal q_3 0 0] H := hP4.sub [3] rfl
      have hd_q_3 : va_D A [cReal q_3 0 0] := hD4.sub [3] (by decide) rfl
      refine lv_dup hx hb dX2_makeUnder_71 rfl ?_
      refine lv_iload_n hx hb dX2_makeUnder_72 rfl (lv_at hl 3 rfl) ?_
      refine vp_callSi (va_cr (va_runS (As := [.int (bI ng)]) (rest := [.ref q_3, .ref q_3]) ⟨hx, hb, hml, hown, hts⟩ (c_X2_signOf l ng) (va_cwS 1 hts gX2_makeUnder_X2_signOf rfl rfl rfl kS_X2_signOf ⟨Nat.le_of_ble_eq_true rfl, Nat.le_of_ble_eq_true rfl⟩) ⟨TB.blind, TB.pre⟩ rfl rfl hl.1 rfl (lv_room (Nat.le_of_ble_eq_true rfl)) dX2_makeUnder_73 ⟨Nat.le_of_ble_eq_true rfl, Nat.le_of_ble_eq_true rfl⟩)) (fun r9 e9 => ?_)
      rw [e9]
      refine lv_lload hx hb dX2_makeUnder_76 (lv_at hl 0 rfl) ?_
      refine lv_lconst (v := 0) hx hb dX2_makeUnder_78 (by decide) ?_
      refine q_cut (v := bI (if (R_rounded cw ng nm ((-16382) - ex)) < 0 then true else false)) (pcJ := 88) (rest := [.int (R_signOf ng), .ref q_3, .ref q_3]) (fun J => ?_) ?_
      · refine q_cl_ge (tgt := 87) hx hb dX2_makeUnder_79 dX2_makeUnder_80 (by decide) (fun c_4 => ?_) (fun c_4 => ?_)
        · refine lv_iconst (v := 0) hx hb dX2_makeUnder_87 (by decide) ?_
          exact J _ (by rw [if_neg c_4]; try rfl)
        · refine lv_iconst (v := 1) hx hb dX2_makeUnder_83 (by decide) ?_
          refine lv_goto (tgt := 88) hx hb dX2_makeUnder_84 (by decide) ?_
          exact J _ (by rw [if_pos c_4]; try rfl)
      refine lv_ior hx hb dX2_makeUnder_88 ?_
      refine lv_lload hx hb dX2_makeUnder_89 (lv_at hl 0 rfl) ?_
      have hFc := va_free (wc := [cReal q_3 0 0]) hd_q_3 hS hA [0] rfl
      refine va_callv (va_runIN (As := [.int ((R_signOf ng) ||| (bI (if (R_rounded cw ng nm ((-16382) - ex)) < 0 then true else false))), .long (R_rounded cw ng nm ((-16382) - ex))]) (rest := [.ref q_3]) ⟨hx, hb, hml, hown, hts⟩ (c_X1_init l D q_3 ((R_signOf ng) ||| (bI (if (R_rounded cw ng nm ((-16382) - ex)) < 0 then true else false))) (R_rounded cw ng nm ((-16382) - ex)) H.size) ⟨va_cnB 2 hts gX2_makeUnder_X1_init_n52 rfl rfl rfl (hE.2.1 _ (List.mem_of_getElem? (i := 7) rfl)) w_3 kS_X1_init ⟨Nat.le_of_ble_eq_true rfl, Nat.le_of_ble_eq_true rfl⟩, rfl, w_5⟩ ⟨INB.blind, INB.pre (hK.sub [] rfl) hx_q_3 hd_q_3⟩ rfl rfl hl.1 rfl (lv_room (Nat.le_of_ble_eq_true rfl)) dX2_makeUnder_91 ⟨Nat.le_of_ble_eq_true rfl, Nat.le_of_ble_eq_true rfl⟩) hS (fun q _ h9 => hFc q h9) hFc (fun u9 t9 H locs ht hvm hw hB hz1 hk1 hS => ?_)
      have hx_q_3 : va_P D vwCl [cReal q_3 ((R_signOf ng) ||| (bI (if (R_rounded cw ng nm ((-16382) - ex)) < 0 then true else false))) (R_rounded cw ng nm ((-16382) - ex))] H := by rw [← ht]; exact hB
      have hP : va_P D vwCl (cRS h q1 q2 cA cB tf ff cw td an qb pa) H := ro_init hP nx_q_3 hk1
      have hw : R_makeUnder cw td ng ex nm = (((R_signOf ng) ||| (bI (if (R_rounded cw ng nm ((-16382) - ex)) < 0 then true else false))), (R_rounded cw ng nm ((-16382) - ex)), td) := by unfold R_makeUnder; rw [if_neg c_1, if_pos c_2]; try rfl
      exact W.aret hx hb hr (Or.inl ⟨_, rfl⟩) (Or.inr ⟨_, rfl⟩) (fun t9 ht hW => ⟨⟨(), q_3, rfl, trivial, ⟨((R_signOf ng) ||| (bI (if (R_rounded cw ng nm ((-16382) - ex)) < 0 then true else false))), (R_rounded cw ng nm ((-16382) - ex)), td, hw, by rw [ht]; exact hP, hD, by rw [ht]; exact hx_q_3, nx_q_3⟩⟩, hS.F ht⟩) hS.2.2 dX2_makeUnder_94
    · refine lv_aload_n hx hb dX2_makeUnder_47 rfl (lv_at hl 1 rfl) ?_
      refine lv_dup hx hb dX2_makeUnder_48 rfl ?_
      refine va_get (v := .int td) (C := RX2) (T := TX2) (N := 7) hx hb hts in_X2 hown hK hP 0 rfl rfl 3 (by decide) w_6 (fun _ h9 => h9) rfl dX2_makeUnder_49 ?_
      refine lv_bipush (v := 48) hx hb dX2_makeUnder_52 (by decide) ?_
      refine lv_ior hx hb dX2_makeUnder_54 ?_
      refine va_put (v := .int (td ||| 48)) (ty := .int) (C := RX2) (T := TX2) (N := 7) hx hb hts in_X2 tyX2 tyX2_ok nmX2 hown hK hP hD hS 0 rfl rfl 3 (by decide) w_6 (fun _ h9 => h9) rfl (tyX2_ok 3 (by decide)) rfl rfl (Nat.le_of_ble_eq_true rfl) dX2_makeUnder_55 (fun H locs hP hD hS => ?_)
      have hP : va_P D vwCl (cRS h q1 q2 cA cB tf ff cw (td ||| 48) an qb pa) H := hP
      have hD : va_D A (cRS h q1 q2 cA cB tf ff cw (td ||| 48) an qb pa) := hD
      refine lv_aload_n hx hb dX2_makeUnder_58 rfl (lv_at hl 1 rfl) ?_
      refine lv_iload_n hx hb dX2_makeUnder_59 rfl (lv_at hl 2 rfl) ?_
      refine lv_lload_n hx hb dX2_makeUnder_60 rfl (lv_at hl 4 rfl) ?_
      refine lv_iload hx hb dX2_makeUnder_61 (lv_at hl 0 rfl) ?_
      refine vp_callSl (va_cr (va_runV (As := [.int (bI ng), .long nm, .int ((-16382) - ex)]) (rest := []) ⟨hx, hb, hml, hown, hts⟩ (c_X2_rounded l D h q1 q2 cw (td ||| 48) an qb pa ng nm ((-16382) - ex)) (cwV 3 hts gX2_makeUnder_X2_rounded rfl rfl rfl kV_X2_rounded ⟨Nat.le_of_ble_eq_true rfl, Nat.le_of_ble_eq_true rfl⟩) ⟨PB.blind, va_recv hK hP (ci := 1) (q0 := 0) rfl rfl, PB.pre (hK.sub [] rfl) (hP.sub [0] rfl)⟩ rfl rfl hl.1 rfl (lv_room (Nat.le_of_ble_eq_true rfl)) dX2_makeUnder_63 ⟨Nat.le_of_ble_eq_true rfl, Nat.le_of_ble_eq_true rfl⟩)) (fun r9 e9 => ?_)
      rw [e9]
      refine lv_lstore (lv' := [(6, .long (R_rounded cw ng nm ((-16382) - ex))), (5, .int ((-16382) - ex)), (0, .ref h), (1, .int (bI ng)), (2, .int ex), (3, .long nm)]) hx hb dX2_makeUnder_66 hl (by decide) rfl (fun ls hl => ?_)
      refine va_new (ci := 0) (fs := [.int 0, .long 0]) (C := RX1) (T := TX1) (N := 2) hx hb hts in_X1 tyX1 tyX1_ok hown w_1 w_2 w_3 hK hP hD hS hA rfl (fun j hj => by rcases (show j = 0 ∨ j = 1 by omega) with rfl | rfl <;> rfl) (Nat.le_of_ble_eq_true rfl) (Nat.le_of_ble_eq_true rfl) dX2_makeUnder_68 (fun q_5 H hP4 hD4 hS => ?_)
      have hP : va_P D vwCl (cRS h q1 q2 cA cB tf ff cw (td ||| 48) an qb pa) H := hP4.sub [0, 1, 2] rfl
      have hD : va_D A (cRS h q1 q2 cA cB tf ff cw (td ||| 48) an qb pa) := hD4.sub [0, 1, 2] (by decide) rfl
      have nx_q_5 : ap3 q_5 h q1 q2 := ap_D hD4
      have hx_q_5 : va_P D vwCl [cReal q_5 0 0] H := hP4.sub [3] rfl
      have hd_q_5 : va_D A [cReal q_5 0 0] := hD4.sub [3] (by decide) rfl
      refine lv_dup hx hb dX2_makeUnder_71 rfl ?_
      refine lv_iload_n hx hb dX2_makeUnder_72 rfl (lv_at hl 3 rfl) ?_
      refine vp_callSi (va_cr (va_runS (As := [.int (bI ng)]) (rest := [.ref q_5, .ref q_5]) ⟨hx, hb, hml, hown, hts⟩ (c_X2_signOf l ng) (va_cwS 1 hts gX2_makeUnder_X2_signOf rfl rfl rfl kS_X2_signOf ⟨Nat.le_of_ble_eq_true rfl, Nat.le_of_ble_eq_true rfl⟩) ⟨TB.blind, TB.pre⟩ rfl rfl hl.1 rfl (lv_room (Nat.le_of_ble_eq_true rfl)) dX2_makeUnder_73 ⟨Nat.le_of_ble_eq_true rfl, Nat.le_of_ble_eq_true rfl⟩)) (fun r9 e9 => ?_)
      rw [e9]
      refine lv_lload hx hb dX2_makeUnder_76 (lv_at hl 0 rfl) ?_
      refine lv_lconst (v := 0) hx hb dX2_makeUnder_78 (by decide) ?_
      refine q_cut (v := bI (if (R_rounded cw ng nm ((-16382) - ex)) < 0 then true else false)) (pcJ := 88) (rest := [.int (R_signOf ng), .ref q_5, .ref q_5]) (fun J => ?_) ?_
      · refine q_cl_ge (tgt := 87) hx hb dX2_makeUnder_79 dX2_makeUnder_80 (by decide) (fun c_6 => ?_) (fun c_6 => ?_)
        · refine lv_iconst (v := 0) hx hb dX2_makeUnder_87 (by decide) ?_
          exact J _ (by rw [if_neg c_6]; try rfl)
        · refine lv_iconst (v := 1) hx hb dX2_makeUnder_83 (by decide) ?_
          refine lv_goto (tgt := 88) hx hb dX2_makeUnder_84 (by decide) ?_
          exact J _ (by rw [if_pos c_6]; try rfl)
      refine lv_ior hx hb dX2_makeUnder_88 ?_
      refine lv_lload hx hb dX2_makeUnder_89 (lv_at hl 0 rfl) ?_
      have hFc := va_free (wc := [cReal q_5 0 0]) hd_q_5 hS hA [0] rfl
      refine va_callv (va_runIN (As := [.int ((R_signOf ng) ||| (bI (if (R_rounded cw ng nm ((-16382) - ex)) < 0 then true else false))), .long (R_rounded cw ng nm ((-16382) - ex))]) (rest := [.ref q_5]) ⟨hx, hb, hml, hown, hts⟩ (c_X1_init l D q_5 ((R_signOf ng) ||| (bI (if (R_rounded cw ng nm ((-16382) - ex)) < 0 then true else false))) (R_rounded cw ng nm ((-16382) - ex)) H.size) ⟨va_cnB 2 hts gX2_makeUnder_X1_init_n52 rfl rfl rfl (hE.2.1 _ (List.mem_of_getElem? (i := 7) rfl)) w_3 kS_X1_init ⟨Nat.le_of_ble_eq_true rfl, Nat.le_of_ble_eq_true rfl⟩, rfl, w_5⟩ ⟨INB.blind, INB.pre (hK.sub [] rfl) hx_q_5 hd_q_5⟩ rfl rfl hl.1 rfl (lv_room (Nat.le_of_ble_eq_true rfl)) dX2_makeUnder_91 ⟨Nat.le_of_ble_eq_true rfl, Nat.le_of_ble_eq_true rfl⟩) hS (fun q _ h9 => hFc q h9) hFc (fun u9 t9 H locs ht hvm hw hB hz1 hk1 hS => ?_)
      have hx_q_5 : va_P D vwCl [cReal q_5 ((R_signOf ng) ||| (bI (if (R_rounded cw ng nm ((-16382) - ex)) < 0 then true else false))) (R_rounded cw ng nm ((-16382) - ex))] H := by rw [← ht]; exact hB
      have hP : va_P D vwCl (cRS h q1 q2 cA cB tf ff cw (td ||| 48) an qb pa) H := ro_init hP nx_q_5 hk1
      have hw : R_makeUnder cw td ng ex nm = (((R_signOf ng) ||| (bI (if (R_rounded cw ng nm ((-16382) - ex)) < 0 then true else false))), (R_rounded cw ng nm ((-16382) - ex)), (td ||| 48)) := by unfold R_makeUnder; rw [if_neg c_1, if_neg c_2]; try rfl
      exact W.aret hx hb hr (Or.inl ⟨_, rfl⟩) (Or.inr ⟨_, rfl⟩) (fun t9 ht hW => ⟨⟨(), q_5, rfl, trivial, ⟨((R_signOf ng) ||| (bI (if (R_rounded cw ng nm ((-16382) - ex)) < 0 then true else false))), (R_rounded cw ng nm ((-16382) - ex)), (td ||| 48), hw, by rw [ht]; exact hP, hD, by rw [ht]; exact hx_q_5, nx_q_5⟩⟩, hS.F ht⟩) hS.2.2 dX2_makeUnder_94
  · refine lv_aload_n hx hb dX2_makeUnder_9 rfl (lv_at hl 0 rfl) ?_
    refine lv_dup hx hb dX2_makeUnder_10 rfl ?_
    refine va_get (v := .int td) (C := RX2) (T := TX2) (N := 7) hx hb hts in_X2 hown hK hP 0 rfl rfl 3 (by decide) w_6 (fun _ h9 => h9) rfl dX2_makeUnder_11 ?_
    refine lv_bipush (v := 16) hx hb dX2_makeUnder_14 (by decide) ?_
    refine lv_ior hx hb dX2_makeUnder_16 ?_
    refine va_put (v := .int (td ||| 16)) (ty := .int) (C := RX2) (T := TX2) (N := 7) hx hb hts in_X2 tyX2 tyX2_ok nmX2 hown hK hP hD hS 0 rfl rfl 3 (by decide) w_6 (fun _ h9 => h9) rfl (tyX2_ok 3 (by decide)) rfl rfl (Nat.le_of_ble_eq_true rfl) dX2_makeUnder_17 (fun H locs hP hD hS => ?_)
    have hP : va_P D vwCl (cRS h q1 q2 cA cB tf ff cw (td ||| 16) an qb pa) H := hP
    have hD : va_D A (cRS h q1 q2 cA cB tf ff cw (td ||| 16) an qb pa) := hD
    refine lv_iload_n hx hb dX2_makeUnder_20 rfl (lv_at hl 1 rfl) ?_
    refine lv_iload_n hx hb dX2_makeUnder_21 rfl (lv_at hl 2 rfl) ?_
    refine lv_sipush (v := 24576) hx hb dX2_makeUnder_22 (by decide) ?_
    refine lv_iadd hx hb dX2_makeUnder_25 ?_
    refine lv_lload_n hx hb dX2_makeUnder_26 rfl (lv_at hl 3 rfl) ?_
    have hFc : ∀ q, va_A [] H.size q → A q := va_free (wc := []) hD hS hA [] rfl
    refine va_callr (va_runS (As := [.int (bI ng), .int (ex + 24576), .long nm]) (rest := []) ⟨hx, hb, hml, hown, hts⟩ (c_X2_normal l D ad ng (ex + 24576) nm H.size) (va_cwS 3 hts gX2_makeUnder_X2_normal rfl rfl rfl kS_X2_normal ⟨Nat.le_of_ble_eq_true rfl, Nat.le_of_ble_eq_true rfl⟩) ⟨SCB.blind, SCB.pre hK vP_nil hE hS hFc⟩ rfl rfl hl.1 rfl (lv_room (Nat.le_of_ble_eq_true rfl)) dX2_makeUnder_27 ⟨Nat.le_of_ble_eq_true rfl, Nat.le_of_ble_eq_true rfl⟩) hS (fun q _ h9 => hFc q h9) hFc (fun u9 y_7 t9 H locs ht hvm hw hB hz1 hk1 hS => ?_)
    obtain ⟨vt_8, vf_9, e_10, hx_y_7, nz_y_7⟩ := hB
    rw [ht] at hx_y_7
    have nx_y_7 : ap3 y_7 h q1 q2 := ap_new hP nz_y_7
    have hP : va_P D vwCl (cRS h q1 q2 cA cB tf ff cw (td ||| 16) an qb pa) H := ro_make hP hk1
    have hw : R_makeUnder cw td ng ex nm = (vt_8, vf_9, (td ||| 16)) := by unfold R_makeUnder; rw [if_pos c_1, tup2_e e_10]; try rfl
    exact W.aret hx hb hr (Or.inl ⟨_, rfl⟩) (Or.inr ⟨_, rfl⟩) (fun t9 ht hW => ⟨⟨(), y_7, rfl, trivial, ⟨vt_8, vf_9, (td ||| 16), hw, by rw [ht]; exact hP, hD, by rw [ht]; exact hx_y_7, nx_y_7⟩⟩, hS.F ht⟩) hS.2.2 dX2_makeUnder_30
def R_makeOver (cw : Int32) (td : Int32) (ng : Bool) (ex : Int32) (nm : Int64) : Int32 × Int64 × Int32 :=
  if bI (R_masked cw 8) = 0 then (tup2 ((R_normal ng (ex - 24576) nm)) (fun vt_18 vf_19 =>
      (vt_18, vf_19, (td ||| 8))))
  else if (R_rounding cw) = 3 then (tup2 ((R_normal ng 16383 (-1))) (fun vt_4 vf_5 =>
      (vt_4, vf_5, ((td ||| 8) ||| 32))))
  else if (R_rounding cw) = (if bI ng = 0 then (1 : Int32) else (2 : Int32)) then (tup2 ((R_normal ng 16383 (-1))) (fun vt_14 vf_15 =>
      (vt_14, vf_15, ((td ||| 8) ||| 32))))
  else (tup2 ((R_infinite ng)) (fun vt_10 vf_11 =>
      (vt_10, vf_11, ((td ||| 8) ||| 32))))
theorem kS_X2_makeOver : yX2_makeOver.cls ≠ "java/lang/invoke/MethodHandle" ∧ yX2_makeOver.cls ≠ "java/lang/invoke/VarHandle" ∧ (parseMethodDescriptor yX2_makeOver.desc).map (fun d => d.parameters.length) = some 3 := by decide +kernel
theorem kV_X2_makeOver : yX2_makeOver.cls = RX2 ∧ yX2_makeOver.cls ≠ "java/lang/invoke/MethodHandle" ∧ yX2_makeOver.cls ≠ "java/lang/invoke/VarHandle" ∧ (parseMethodDescriptor yX2_makeOver.desc).map (fun d => d.parameters.length) = some 3 := ⟨rfl, kS_X2_makeOver⟩
set_option maxHeartbeats 4000000 in
set_option maxRecDepth 100000 in
theorem c_X2_makeOver (l : Launch) (D : va_G) (ad : Nat → Nat) (h : Nat) (q1 : Nat) (q2 : Nat) (cA : ClassId) (cB : ClassId) (tf : Nat → Int32) (ff : Nat → Int64) (cw : Int32) (td : Int32) (an : Bool) (qb : Int32) (pa : Bool) (ng : Bool) (ex : Int32) (nm : Int64) (sz : Nat) : Met l yX2_makeOver wsX2_makeOver ({ frames := 3, cells := 1, slots := 2, locals := 58 } : Room) (va_Pc [.ref h, .int (bI ng), .int ex, .long nm] (MRB D ad h q1 q2 (tRS cA cB) (cRS h q1 q2 cA cB tf ff cw td an qb pa) [] sz)) (va_Qr (fun (_ : Unit) => True) (fun _ a t => ∃ (w_t : Int32) (w_f : Int64) (w_td : Int32), R_makeOver cw td ng ex nm = (w_t, w_f, w_td) ∧ va_P D vwCl (cRS h q1 q2 cA cB tf ff cw w_td an qb pa) t.heap ∧ va_D (va_A (cRS h q1 q2 cA cB tf ff cw td an qb pa) sz) (cRS h q1 q2 cA cB tf ff cw w_td an qb pa) ∧ va_P D vwCl [cReal a w_t w_f] t.heap ∧ ap3 a h q1 q2) (va_A (cRS h q1 q2 cA cB tf ff cw td an qb pa) sz)) 1 2 (va_A (cRS h q1 q2 cA cB tf ff cw td an qb pa) sz) := by
  refine Met.ofW (cc := cX2_makeOver) (maxL := 6) (ret := (some (.object "RealSteps$Real"))) (by decide) rfl ?_
  intro p e s m args below meth c s₁ B hml hv
  obtain ⟨rfl, hsz, hP, hK, hD0, hR0, hRp, hE⟩ := hv
  have hx := B.exec
  have hb := B.bytes
  have hr := B.returns
  have hts := atoms_spec (ws := wsX2_makeOver) B.pre
  have hown : s.vm.findClass RX2 = some m.cls := findClass_of_methodNamed B.named
  have hlocks := B.notSynchronized
  have w_1 := hts (.fieldLink RX2 21 "RealSteps" "toldBits" "I") (by decide +kernel)
  have in_X2 : ∀ w ∈ wsX20, w ∈ wsX2_makeOver := by decide +kernel
  have w_3 := hts (.constantLong RX2 210 (-1)) (by decide +kernel)
  subst hsz
  have hD := hD0.self (sz := s.heap.size)
  have hRA := rs_A hR0 hRp (e1 := .inr (1, [.ref q1, .ref q2, .int cw, .int td, .int (bI an), .int qb, .int (bI pa)])) (e2 := .inl (cA, 8, .inl tf)) (e3 := .inl (cB, 8, .inr (.inl ff)))
  generalize hAe : va_A (cRS h q1 q2 cA cB tf ff cw td an qb pa) s.heap.size = A at hD hE hRA ⊢
  have hA : ∀ q : Nat, s.heap.size ≤ q → A q := fun q h => by rw [← hAe]; exact Or.inr h
  have hS : va_S A s.heap s.heap [] := va_S.rf
  have hP : va_P D vwCl (cRS h q1 q2 cA cB tf ff cw td an qb pa) s.heap := hP
  have hl := lv_entry ([.ref h, .int (bI ng), .int ex, .long nm]) (n := 6) (Nat.le_of_ble_eq_true rfl)
  rw [lg_entry_eq]
  generalize (lg_sl ([.ref h, .int (bI ng), .int ex, .long nm]) ++ List.replicate (6 - (lg_sl ([.ref h, .int (bI ng), .int ex, .long nm])).length) Slot.unset).toArray = ls at hl ⊢
  have hl : lv_has ls 6 [(0, .ref h), (1, .int (bI ng)), (2, .int ex), (3, .long nm)] := hl
  refine lv_aload_n hx hb dX2_makeOver_0 rfl (lv_at hl 0 rfl) ?_
  refine lv_dup hx hb dX2_makeOver_1 rfl ?_
  refine va_get (v := .int td) (C := RX2) (T := TX2) (N := 7) hx hb hts in_X2 hown hK hP 0 rfl rfl 3 (by decide) w_1 (fun _ h9 => h9) rfl dX2_makeOver_2 ?_
  refine lv_bipush (v := 8) hx hb dX2_makeOver_5 (by decide) ?_
  refine lv_ior hx hb dX2_makeOver_7 ?_
  refine va_put (v := .int (td ||| 8)) (ty := .int) (C := RX2) (T := TX2) (N := 7) hx hb hts in_X2 tyX2 tyX2_ok nmX2 hown hK hP hD hS 0 rfl rfl 3 (by decide) w_1 (fun _ h9 => h9) rfl (tyX2_ok 3 (by decide)) rfl rfl (Nat.le_of_ble_eq_true rfl) dX2_makeOver_8 (fun H locs hP hD hS => ?_)
  have hP : va_P D vwCl (cRS h q1 q2 cA cB tf ff cw (td ||| 8) an qb pa) H := hP
  have hD : va_D A (cRS h q1 q2 cA cB tf ff cw (td ||| 8) an qb pa) := hD
  refine lv_aload_n hx hb dX2_makeOver_11 rfl (lv_at hl 0 rfl) ?_
  refine lv_bipush (v := 8) hx hb dX2_makeOver_12 (by decide) ?_
  refine vp_callSi (va_cr (va_runV (As := [.int 8]) (rest := []) ⟨hx, hb, hml, hown, hts⟩ (c_X2_isMasked l D h q1 q2 cw (td ||| 8) an qb pa 8) (cwV 1 hts gX2_makeOver_X2_isMasked rfl rfl rfl kV_X2_isMasked ⟨Nat.le_of_ble_eq_true rfl, Nat.le_of_ble_eq_true rfl⟩) ⟨PB.blind, va_recv hK hP (ci := 1) (q0 := 0) rfl rfl, PB.pre (hK.sub [] rfl) (hP.sub [0] rfl)⟩ rfl rfl hl.1 rfl (lv_room (Nat.le_of_ble_eq_true rfl)) dX2_makeOver_14 ⟨Nat.le_of_ble_eq_true rfl, Nat.le_of_ble_eq_true rfl⟩)) (fun r9 e9 => ?_)
  rw [e9]
  refine lv_if_ne (tgt := 31) hx hb dX2_makeOver_17 (by decide) (fun c_1 => ?_) (fun c_1 => ?_)
  · refine lv_aload_n hx hb dX2_makeOver_31 rfl (lv_at hl 0 rfl) ?_
    refine lv_dup hx hb dX2_makeOver_32 rfl ?_
    refine va_get (v := .int (td ||| 8)) (C := RX2) (T := TX2) (N := 7) hx hb hts in_X2 hown hK hP 0 rfl rfl 3 (by decide) w_1 (fun _ h9 => h9) rfl dX2_makeOver_33 ?_
    refine lv_bipush (v := 32) hx hb dX2_makeOver_36 (by decide) ?_
    refine lv_ior hx hb dX2_makeOver_38 ?_
    refine va_put (v := .int ((td ||| 8) ||| 32)) (ty := .int) (C := RX2) (T := TX2) (N := 7) hx hb hts in_X2 tyX2 tyX2_ok nmX2 hown hK hP hD hS 0 rfl rfl 3 (by decide) w_1 (fun _ h9 => h9) rfl (tyX2_ok 3 (by decide)) rfl rfl (Nat.le_of_ble_eq_true rfl) dX2_makeOver_39 (fun H locs hP hD hS => ?_)
    have hP : va_P D vwCl (cRS h q1 q2 cA cB tf ff cw ((td ||| 8) ||| 32) an qb pa) H := hP
    have hD : va_D A (cRS h q1 q2 cA cB tf ff cw ((td ||| 8) ||| 32) an qb pa) := hD
    refine lv_aload_n hx hb dX2_makeOver_42 rfl (lv_at hl 0 rfl) ?_
    refine vp_callSi (va_cr (va_runV (As := []) (rest := []) ⟨hx, hb, hml, hown, hts⟩ (c_X2_rounding l D h q1 q2 cw ((td ||| 8) ||| 32) an qb pa) (cwV 0 hts gX2_makeOver_X2_rounding rfl rfl rfl kV_X2_rounding ⟨Nat.le_of_ble_eq_true rfl, Nat.le_of_ble_eq_true rfl⟩) ⟨PB.blind, va_recv hK hP (ci := 1) (q0 := 0) rfl rfl, PB.pre (hK.sub [] rfl) (hP.sub [0] rfl)⟩ rfl rfl hl.1 rfl (lv_room (Nat.le_of_ble_eq_true rfl)) dX2_makeOver_43 ⟨Nat.le_of_ble_eq_true rfl, Nat.le_of_ble_eq_true rfl⟩)) (fun r9 e9 => ?_)
    rw [e9]
    refine lv_istore (lv' := [(5, .int (R_rounding cw)), (0, .ref h), (1, .int (bI ng)), (2, .int ex), (3, .long nm)]) hx hb dX2_makeOver_46 hl (by decide) rfl (fun ls hl => ?_)
    refine lv_iload hx hb dX2_makeOver_48 (lv_at hl 0 rfl) ?_
    refine lv_iconst (v := 3) hx hb dX2_makeOver_50 (by decide) ?_
    refine lv_icmp_eq (tgt := 68) hx hb dX2_makeOver_51 (by decide) (fun c_2 => ?_) (fun c_2 => ?_)
    · refine lv_iload_n hx hb dX2_makeOver_68 rfl (lv_at hl 2 rfl) ?_
      refine lv_sipush (v := 16383) hx hb dX2_makeOver_69 (by decide) ?_
      refine lv_ldc2 (v := (-1)) hx hb hown w_3 dX2_makeOver_72 ?_
      have hFc : ∀ q, va_A [] H.size q → A q := va_free (wc := []) hD hS hA [] rfl
      refine va_callr (va_runS (As := [.int (bI ng), .int 16383, .long (-1)]) (rest := []) ⟨hx, hb, hml, hown, hts⟩ (c_X2_normal l D ad ng 16383 (-1) H.size) (va_cwS 3 hts gX2_makeOver_X2_normal rfl rfl rfl kS_X2_normal ⟨Nat.le_of_ble_eq_true rfl, Nat.le_of_ble_eq_true rfl⟩) ⟨SCB.blind, SCB.pre hK vP_nil hE hS hFc⟩ rfl rfl hl.1 rfl (lv_room (Nat.le_of_ble_eq_true rfl)) dX2_makeOver_75 ⟨Nat.le_of_ble_eq_true rfl, Nat.le_of_ble_eq_true rfl⟩) hS (fun q _ h9 => hFc q h9) hFc (fun u9 y_3 t9 H locs ht hvm hw hB hz1 hk1 hS => ?_)
      obtain ⟨vt_4, vf_5, e_6, hx_y_3, nz_y_3⟩ := hB
      rw [ht] at hx_y_3
      have nx_y_3 : ap3 y_3 h q1 q2 := ap_new hP nz_y_3
      have hP : va_P D vwCl (cRS h q1 q2 cA cB tf ff cw ((td ||| 8) ||| 32) an qb pa) H := ro_make hP hk1
      have hw : R_makeOver cw td ng ex nm = (vt_4, vf_5, ((td ||| 8) ||| 32)) := by unfold R_makeOver; rw [if_neg c_1, if_pos c_2, tup2_e e_6]; try rfl
      exact W.aret hx hb hr (Or.inl ⟨_, rfl⟩) (Or.inr ⟨_, rfl⟩) (fun t9 ht hW => ⟨⟨(), y_3, rfl, trivial, ⟨vt_4, vf_5, ((td ||| 8) ||| 32), hw, by rw [ht]; exact hP, hD, by rw [ht]; exact hx_y_3, nx_y_3⟩⟩, hS.F ht⟩) hS.2.2 dX2_makeOver_78
    · refine lv_iload hx hb dX2_makeOver_54 (lv_at hl 0 rfl) ?_
      refine lv_iload_n hx hb dX2_makeOver_56 rfl (lv_at hl 2 rfl) ?_
      refine q_cut (v := (if bI ng = 0 then (1 : Int32) else (2 : Int32))) (pcJ := 65) (rest := [.int (R_rounding cw)]) (fun J => ?_) ?_
      · refine lv_if_eq (tgt := 64) hx hb dX2_makeOver_57 (by decide) (fun c_7 => ?_) (fun c_7 => ?_)
        · refine lv_iconst (v := 1) hx hb dX2_makeOver_64 (by decide) ?_
          exact J _ (by rw [if_pos c_7]; try rfl)
        · refine lv_iconst (v := 2) hx hb dX2_makeOver_60 (by decide) ?_
          refine lv_goto (tgt := 65) hx hb dX2_makeOver_61 (by decide) ?_
          exact J _ (by rw [if_neg c_7]; try rfl)
      refine lv_icmp_ne (tgt := 79) hx hb dX2_makeOver_65 (by decide) (fun c_8 => ?_) (fun c_8 => ?_)
      · refine lv_iload_n hx hb dX2_makeOver_79 rfl (lv_at hl 2 rfl) ?_
        have hFc : ∀ q, va_A [] H.size q → A q := va_free (wc := []) hD hS hA [] rfl
        refine va_callr (va_runS (As := [.int (bI ng)]) (rest := []) ⟨hx, hb, hml, hown, hts⟩ (c_X2_infinite l D ad ng H.size) (va_cwS 1 hts gX2_makeOver_X2_infinite rfl rfl rfl kS_X2_infinite ⟨Nat.le_of_ble_eq_true rfl, Nat.le_of_ble_eq_true rfl⟩) ⟨SCB.blind, SCB.pre hK vP_nil hE hS hFc⟩ rfl rfl hl.1 rfl (lv_room (Nat.le_of_ble_eq_true rfl)) dX2_makeOver_80 ⟨Nat.le_of_ble_eq_true rfl, Nat.le_of_ble_eq_true rfl⟩) hS (fun q _ h9 => hFc q h9) hFc (fun u9 y_9 t9 H locs ht hvm hw hB hz1 hk1 hS => ?_)
        obtain ⟨vt_10, vf_11, e_12, hx_y_9, nz_y_9⟩ := hB
        rw [ht] at hx_y_9
        have nx_y_9 : ap3 y_9 h q1 q2 := ap_new hP nz_y_9
        have hP : va_P D vwCl (cRS h q1 q2 cA cB tf ff cw ((td ||| 8) ||| 32) an qb pa) H := ro_make hP hk1
        have hw : R_makeOver cw td ng ex nm = (vt_10, vf_11, ((td ||| 8) ||| 32)) := by unfold R_makeOver; rw [if_neg c_1, if_neg c_2, if_neg c_8, tup2_e e_12]; try rfl
        exact W.aret hx hb hr (Or.inl ⟨_, rfl⟩) (Or.inr ⟨_, rfl⟩) (fun t9 ht hW => ⟨⟨(), y_9, rfl, trivial, ⟨vt_10, vf_11, ((td ||| 8) ||| 32), hw, by rw [ht]; exact hP, hD, by rw [ht]; exact hx_y_9, nx_y_9⟩⟩, hS.F ht⟩) hS.2.2 dX2_makeOver_83
      · refine lv_iload_n hx hb dX2_makeOver_68 rfl (lv_at hl 2 rfl) ?_
        refine lv_sipush (v := 16383) hx hb dX2_makeOver_69 (by decide) ?_
        refine lv_ldc2 (v := (-1)) hx hb hown w_3 dX2_makeOver_72 ?_
        have hFc : ∀ q, va_A [] H.size q → A q := va_free (wc := []) hD hS hA [] rfl
        refine va_callr (va_runS (As := [.int (bI ng), .int 16383, .long (-1)]) (rest := []) ⟨hx, hb, hml, hown, hts⟩ (c_X2_normal l D ad ng 16383 (-1) H.size) (va_cwS 3 hts gX2_makeOver_X2_normal rfl rfl rfl kS_X2_normal ⟨Nat.le_of_ble_eq_true rfl, Nat.le_of_ble_eq_true rfl⟩) ⟨SCB.blind, SCB.pre hK vP_nil hE hS hFc⟩ rfl rfl hl.1 rfl (lv_room (Nat.le_of_ble_eq_true rfl)) dX2_makeOver_75 ⟨Nat.le_of_ble_eq_true rfl, Nat.le_of_ble_eq_true rfl⟩) hS (fun q _ h9 => hFc q h9) hFc (fun u9 y_13 t9 H locs ht hvm hw hB hz1 hk1 hS => ?_)
        obtain ⟨vt_14, vf_15, e_16, hx_y_13, nz_y_13⟩ := hB
        rw [ht] at hx_y_13
        have nx_y_13 : ap3 y_13 h q1 q2 := ap_new hP nz_y_13
        have hP : va_P D vwCl (cRS h q1 q2 cA cB tf ff cw ((td ||| 8) ||| 32) an qb pa) H := ro_make hP hk1
        have hw : R_makeOver cw td ng ex nm = (vt_14, vf_15, ((td ||| 8) ||| 32)) := by unfold R_makeOver; rw [if_neg c_1, if_neg c_2, if_pos c_8, tup2_e e_16]; try rfl
        exact W.aret hx hb hr (Or.inl ⟨_, rfl⟩) (Or.inr ⟨_, rfl⟩) (fun t9 ht hW => ⟨⟨(), y_13, rfl, trivial, ⟨vt_14, vf_15, ((td ||| 8) ||| 32), hw, by rw [ht]; exact hP, hD, by rw [ht]; exact hx_y_13, nx_y_13⟩⟩, hS.F ht⟩) hS.2.2 dX2_makeOver_78
  · refine lv_iload_n hx hb dX2_makeOver_20 rfl (lv_at hl 1 rfl) ?_
    refine lv_iload_n hx hb dX2_makeOver_21 rfl (lv_at hl 2 rfl) ?_
    refine lv_sipush (v := 24576) hx hb dX2_makeOver_22 (by decide) ?_
    refine lv_isub hx hb dX2_makeOver_25 ?_
    refine lv_lload_n hx hb dX2_makeOver_26 rfl (lv_at hl 3 rfl) ?_
    have hFc : ∀ q, va_A [] H.size q → A q := va_free (wc := []) hD hS hA [] rfl
    refine va_callr (va_runS (As := [.int (bI ng), .int (ex - 24576), .long nm]) (rest := []) ⟨hx, hb, hml, hown, hts⟩ (c_X2_normal l D ad ng (ex - 24576) nm H.size) (va_cwS 3 hts gX2_makeOver_X2_normal rfl rfl rfl kS_X2_normal ⟨Nat.le_of_ble_eq_true rfl, Nat.le_of_ble_eq_true rfl⟩) ⟨SCB.blind, SCB.pre hK vP_nil hE hS hFc⟩ rfl rfl hl.1 rfl (lv_room (Nat.le_of_ble_eq_true rfl)) dX2_makeOver_27 ⟨Nat.le_of_ble_eq_true rfl, Nat.le_of_ble_eq_true rfl⟩) hS (fun q _ h9 => hFc q h9) hFc (fun u9 y_17 t9 H locs ht hvm hw hB hz1 hk1 hS => ?_)
    obtain ⟨vt_18, vf_19, e_20, hx_y_17, nz_y_17⟩ := hB
    rw [ht] at hx_y_17
    have nx_y_17 : ap3 y_17 h q1 q2 := ap_new hP nz_y_17
    have hP : va_P D vwCl (cRS h q1 q2 cA cB tf ff cw (td ||| 8) an qb pa) H := ro_make hP hk1
    have hw : R_makeOver cw td ng ex nm = (vt_18, vf_19, (td ||| 8)) := by unfold R_makeOver; rw [if_pos c_1, tup2_e e_20]; try rfl
    exact W.aret hx hb hr (Or.inl ⟨_, rfl⟩) (Or.inr ⟨_, rfl⟩) (fun t9 ht hW => ⟨⟨(), y_17, rfl, trivial, ⟨vt_18, vf_19, (td ||| 8), hw, by rw [ht]; exact hP, hD, by rw [ht]; exact hx_y_17, nx_y_17⟩⟩, hS.F ht⟩) hS.2.2 dX2_makeOver_30
def R_make (cw : Int32) (td : Int32) (ng : Bool) (fr : Int64) (un : Int32) : Int32 × Int64 × Int32 :=
  if fr = 0 then (tup2 ((R_zero ng)) (fun vt_19 vf_20 =>
      (vt_19, vf_20, td)))
  else if (-16382) ≤ ((un + 63) - (J_nlz64 fr)) then (if ((un + 63) - (J_nlz64 fr)) ≤ 16383 then (tup2 ((R_normal ng ((un + 63) - (J_nlz64 fr)) (jlshl fr (J_nlz64 fr)))) (fun vt_5 vf_6 =>
        (vt_5, vf_6, td)))
    else (tup3 ((R_makeOver cw td ng ((un + 63) - (J_nlz64 fr)) (jlshl fr (J_nlz64 fr)))) (fun vt_9 vf_10 otd_11 =>
        (vt_9, vf_10, otd_11))))
  else (tup3 ((R_makeUnder cw td ng ((un + 63) - (J_nlz64 fr)) (jlshl fr (J_nlz64 fr)))) (fun vt_14 vf_15 otd_16 =>
      (vt_14, vf_15, otd_16)))
theorem kS_X2_make : yX2_make.cls ≠ "java/lang/invoke/MethodHandle" ∧ yX2_make.cls ≠ "java/lang/invoke/VarHandle" ∧ (parseMethodDescriptor yX2_make.desc).map (fun d => d.parameters.length) = some 3 := by decide +kernel
theorem kV_X2_make : yX2_make.cls = RX2 ∧ yX2_make.cls ≠ "java/lang/invoke/MethodHandle" ∧ yX2_make.cls ≠ "java/lang/invoke/VarHandle" ∧ (parseMethodDescriptor yX2_make.desc).map (fun d => d.parameters.length) = some 3 := ⟨rfl, kS_X2_make⟩
set_option maxHeartbeats 4000000 in
set_option maxRecDepth 100000 in
theorem c_X2_make (l : Launch) (D : va_G) (ad : Nat → Nat) (h : Nat) (q1 : Nat) (q2 : Nat) (cA : ClassId) (cB : ClassId) (tf : Nat → Int32) (ff : Nat → Int64) (cw : Int32) (td : Int32) (an : Bool) (qb : Int32) (pa : Bool) (ng : Bool) (fr : Int64) (un : Int32) (sz : Nat) : Met l yX2_make wsX2_make ({ frames := 6, cells := 1, slots := 2, locals := 153 } : Room) (va_Pc [.ref h, .int (bI ng), .long fr, .int un] (MRB D ad h q1 q2 (tRS cA cB) (cRS h q1 q2 cA cB tf ff cw td an qb pa) [] sz)) (va_Qr (fun (_ : Unit) => True) (fun _ a t => ∃ (w_t : Int32) (w_f : Int64) (w_td : Int32), R_make cw td ng fr un = (w_t, w_f, w_td) ∧ va_P D vwCl (cRS h q1 q2 cA cB tf ff cw w_td an qb pa) t.heap ∧ va_D (va_A (cRS h q1 q2 cA cB tf ff cw td an qb pa) sz) (cRS h q1 q2 cA cB tf ff cw w_td an qb pa) ∧ va_P D vwCl [cReal a w_t w_f] t.heap ∧ ap3 a h q1 q2) (va_A (cRS h q1 q2 cA cB tf ff cw td an qb pa) sz)) 1 2 (va_A (cRS h q1 q2 cA cB tf ff cw td an qb pa) sz) := by
  refine Met.ofW (cc := cX2_make) (maxL := 9) (ret := (some (.object "RealSteps$Real"))) (by decide) rfl ?_
  intro p e s m args below meth c s₁ B hml hv
  obtain ⟨rfl, hsz, hP, hK, hD0, hR0, hRp, hE⟩ := hv
  have hx := B.exec
  have hb := B.bytes
  have hr := B.returns
  have hts := atoms_spec (ws := wsX2_make) B.pre
  have hown : s.vm.findClass RX2 = some m.cls := findClass_of_methodNamed B.named
  have hlocks := B.notSynchronized
  subst hsz
  have hD := hD0.self (sz := s.heap.size)
  have hRA := rs_A hR0 hRp (e1 := .inr (1, [.ref q1, .ref q2, .int cw, .int td, .int (bI an), .int qb, .int (bI pa)])) (e2 := .inl (cA, 8, .inl tf)) (e3 := .inl (cB, 8, .inr (.inl ff)))
  generalize hAe : va_A (cRS h q1 q2 cA cB tf ff cw td an qb pa) s.heap.size = A at hD hE hRA ⊢
  have hA : ∀ q : Nat, s.heap.size ≤ q → A q := fun q h => by rw [← hAe]; exact Or.inr h
  have hS : va_S A s.heap s.heap [] := va_S.rf
  have hP : va_P D vwCl (cRS h q1 q2 cA cB tf ff cw td an qb pa) s.heap := hP
  have hl := lv_entry ([.ref h, .int (bI ng), .long fr, .int un]) (n := 9) (Nat.le_of_ble_eq_true rfl)
  rw [lg_entry_eq]
  generalize (lg_sl ([.ref h, .int (bI ng), .long fr, .int un]) ++ List.replicate (9 - (lg_sl ([.ref h, .int (bI ng), .long fr, .int un])).length) Slot.unset).toArray = ls at hl ⊢
  have hl : lv_has ls 9 [(0, .ref h), (1, .int (bI ng)), (2, .long fr), (4, .int un)] := hl
  refine lv_lload_n hx hb dX2_make_0 rfl (lv_at hl 2 rfl) ?_
  refine lv_lconst (v := 0) hx hb dX2_make_1 (by decide) ?_
  refine q_cl_ne (tgt := 11) hx hb dX2_make_2 dX2_make_3 (by decide) (fun c_1 => ?_) (fun c_1 => ?_)
  · refine lv_lload_n hx hb dX2_make_11 rfl (lv_at hl 2 rfl) ?_
    refine vp_callSi (va_cr (va_runS (As := [.long fr]) (rest := []) ⟨hx, hb, hml, hown, hts⟩ (c_J13_numberOfLeadingZeros_95d88 l fr) (va_cwS 1 hts gX2_make_J13_numberOfLeadingZeros_95d88 rfl rfl rfl kS_J13_numberOfLeadingZeros_95d88 ⟨Nat.le_of_ble_eq_true rfl, Nat.le_of_ble_eq_true rfl⟩) ⟨TB.blind, TB.pre⟩ rfl rfl hl.1 rfl (lv_room (Nat.le_of_ble_eq_true rfl)) dX2_make_12 ⟨Nat.le_of_ble_eq_true rfl, Nat.le_of_ble_eq_true rfl⟩)) (fun r9 e9 => ?_)
    rw [e9]
    refine lv_istore (lv' := [(5, .int (J_nlz64 fr)), (0, .ref h), (1, .int (bI ng)), (2, .long fr), (4, .int un)]) hx hb dX2_make_15 hl (by decide) rfl (fun ls hl => ?_)
    refine lv_lload_n hx hb dX2_make_17 rfl (lv_at hl 3 rfl) ?_
    refine lv_iload hx hb dX2_make_18 (lv_at hl 0 rfl) ?_
    refine lv_lshl (v := (jlshl fr (J_nlz64 fr))) hx hb dX2_make_20 rfl ?_
    refine lv_lstore (lv' := [(6, .long (jlshl fr (J_nlz64 fr))), (5, .int (J_nlz64 fr)), (0, .ref h), (1, .int (bI ng)), (2, .long fr), (4, .int un)]) hx hb dX2_make_21 hl (by decide) rfl (fun ls hl => ?_)
    refine lv_iload hx hb dX2_make_23 (lv_at hl 5 rfl) ?_
    refine lv_bipush (v := 63) hx hb dX2_make_25 (by decide) ?_
    refine lv_iadd hx hb dX2_make_27 ?_
    refine lv_iload hx hb dX2_make_28 (lv_at hl 1 rfl) ?_
    refine lv_isub hx hb dX2_make_30 ?_
    refine lv_istore (lv' := [(8, .int ((un + 63) - (J_nlz64 fr))), (6, .long (jlshl fr (J_nlz64 fr))), (5, .int (J_nlz64 fr)), (0, .ref h), (1, .int (bI ng)), (2, .long fr), (4, .int un)]) hx hb dX2_make_31 hl (by decide) rfl (fun ls hl => ?_)
    refine lv_iload hx hb dX2_make_33 (lv_at hl 0 rfl) ?_
    refine lv_sipush (v := (-16382)) hx hb dX2_make_35 (by decide) ?_
    refine lv_icmp_ge (tgt := 51) hx hb dX2_make_38 (by decide) (fun c_2 => ?_) (fun c_2 => ?_)
    · refine lv_iload hx hb dX2_make_51 (lv_at hl 0 rfl) ?_
      refine lv_sipush (v := 16383) hx hb dX2_make_53 (by decide) ?_
      refine lv_icmp_le (tgt := 69) hx hb dX2_make_56 (by decide) (fun c_3 => ?_) (fun c_3 => ?_)
      · refine lv_iload_n hx hb dX2_make_69 rfl (lv_at hl 4 rfl) ?_
        refine lv_iload hx hb dX2_make_70 (lv_at hl 0 rfl) ?_
        refine lv_lload hx hb dX2_make_72 (lv_at hl 1 rfl) ?_
        have hFc : ∀ q, va_A [] s.heap.size q → A q := va_free (wc := []) hD hS hA [] rfl
        refine va_callr (va_runS (As := [.int (bI ng), .int ((un + 63) - (J_nlz64 fr)), .long (jlshl fr (J_nlz64 fr))]) (rest := []) ⟨hx, hb, hml, hown, hts⟩ (c_X2_normal l D ad ng ((un + 63) - (J_nlz64 fr)) (jlshl fr (J_nlz64 fr)) s.heap.size) (va_cwS 3 hts gX2_make_X2_normal rfl rfl rfl kS_X2_normal ⟨Nat.le_of_ble_eq_true rfl, Nat.le_of_ble_eq_true rfl⟩) ⟨SCB.blind, SCB.pre hK vP_nil hE hS hFc⟩ rfl rfl hl.1 rfl (lv_room (Nat.le_of_ble_eq_true rfl)) dX2_make_74 ⟨Nat.le_of_ble_eq_true rfl, Nat.le_of_ble_eq_true rfl⟩) hS (fun q _ h9 => hFc q h9) hFc (fun u9 y_4 t9 H locs ht hvm hw hB hz1 hk1 hS => ?_)
        obtain ⟨vt_5, vf_6, e_7, hx_y_4, nz_y_4⟩ := hB
        rw [ht] at hx_y_4
        have nx_y_4 : ap3 y_4 h q1 q2 := ap_new hP nz_y_4
        have hP : va_P D vwCl (cRS h q1 q2 cA cB tf ff cw td an qb pa) H := ro_make hP hk1
        have hw : R_make cw td ng fr un = (vt_5, vf_6, td) := by unfold R_make; rw [if_neg c_1, if_pos c_2, if_pos c_3, tup2_e e_7]; try rfl
        exact W.aret hx hb hr (Or.inl ⟨_, rfl⟩) (Or.inr ⟨_, rfl⟩) (fun t9 ht hW => ⟨⟨(), y_4, rfl, trivial, ⟨vt_5, vf_6, td, hw, by rw [ht]; exact hP, hD, by rw [ht]; exact hx_y_4, nx_y_4⟩⟩, hS.F ht⟩) hS.2.2 dX2_make_77
      · refine lv_aload_n hx hb dX2_make_59 rfl (lv_at hl 3 rfl) ?_
        refine lv_iload_n hx hb dX2_make_60 rfl (lv_at hl 4 rfl) ?_
        refine lv_iload hx hb dX2_make_61 (lv_at hl 0 rfl) ?_
        refine lv_lload hx hb dX2_make_63 (lv_at hl 1 rfl) ?_
        have hFc := va_free (wc := cRS h q1 q2 cA cB tf ff cw td an qb pa) hD hS hA [0, 1, 2] rfl
        refine va_callr (va_runV (As := [.int (bI ng), .int ((un + 63) - (J_nlz64 fr)), .long (jlshl fr (J_nlz64 fr))]) (rest := []) ⟨hx, hb, hml, hown, hts⟩ (c_X2_makeOver l D ad h q1 q2 cA cB tf ff cw td an qb pa ng ((un + 63) - (J_nlz64 fr)) (jlshl fr (J_nlz64 fr)) s.heap.size) (cwV 3 hts gX2_make_X2_makeOver rfl rfl rfl kV_X2_makeOver ⟨Nat.le_of_ble_eq_true rfl, Nat.le_of_ble_eq_true rfl⟩) ⟨MRB.blind, va_recv hK hP (ci := 1) (q0 := 0) rfl rfl, MRB.pre hK hP hD vP_nil ap_nil hE hS hFc⟩ rfl rfl hl.1 rfl (lv_room (Nat.le_of_ble_eq_true rfl)) dX2_make_65 ⟨Nat.le_of_ble_eq_true rfl, Nat.le_of_ble_eq_true rfl⟩) hS (fun q _ h9 => hFc q h9) hFc (fun u9 y_8 t9 H locs ht hvm hw hB hz1 hk1 hS => ?_)
        obtain ⟨vt_9, vf_10, otd_11, e_12, hP, hD9, hx_y_8, nx_y_8⟩ := hB
        rw [ht] at hP hx_y_8
        have hD : va_D A (cRS h q1 q2 cA cB tf ff cw otd_11 an qb pa) := hD9.weaken (fun _ _ _ h => hFc _ h)
        have hw : R_make cw td ng fr un = (vt_9, vf_10, otd_11) := by unfold R_make; rw [if_neg c_1, if_pos c_2, if_neg c_3, tup3_e e_12]; try rfl
        exact W.aret hx hb hr (Or.inl ⟨_, rfl⟩) (Or.inr ⟨_, rfl⟩) (fun t9 ht hW => ⟨⟨(), y_8, rfl, trivial, ⟨vt_9, vf_10, otd_11, hw, by rw [ht]; exact hP, hD, by rw [ht]; exact hx_y_8, nx_y_8⟩⟩, hS.F ht⟩) hS.2.2 dX2_make_68
    · refine lv_aload_n hx hb dX2_make_41 rfl (lv_at hl 3 rfl) ?_
      refine lv_iload_n hx hb dX2_make_42 rfl (lv_at hl 4 rfl) ?_
      refine lv_iload hx hb dX2_make_43 (lv_at hl 0 rfl) ?_
      refine lv_lload hx hb dX2_make_45 (lv_at hl 1 rfl) ?_
      have hFc := va_free (wc := cRS h q1 q2 cA cB tf ff cw td an qb pa) hD hS hA [0, 1, 2] rfl
      refine va_callr (va_runV (As := [.int (bI ng), .int ((un + 63) - (J_nlz64 fr)), .long (jlshl fr (J_nlz64 fr))]) (rest := []) ⟨hx, hb, hml, hown, hts⟩ (c_X2_makeUnder l D ad h q1 q2 cA cB tf ff cw td an qb pa ng ((un + 63) - (J_nlz64 fr)) (jlshl fr (J_nlz64 fr)) s.heap.size) (cwV 3 hts gX2_make_X2_makeUnder rfl rfl rfl kV_X2_makeUnder ⟨Nat.le_of_ble_eq_true rfl, Nat.le_of_ble_eq_true rfl⟩) ⟨MRB.blind, va_recv hK hP (ci := 1) (q0 := 0) rfl rfl, MRB.pre hK hP hD vP_nil ap_nil hE hS hFc⟩ rfl rfl hl.1 rfl (lv_room (Nat.le_of_ble_eq_true rfl)) dX2_make_47 ⟨Nat.le_of_ble_eq_true rfl, Nat.le_of_ble_eq_true rfl⟩) hS (fun q _ h9 => hFc q h9) hFc (fun u9 y_13 t9 H locs ht hvm hw hB hz1 hk1 hS => ?_)
      obtain ⟨vt_14, vf_15, otd_16, e_17, hP, hD9, hx_y_13, nx_y_13⟩ := hB
      rw [ht] at hP hx_y_13
      have hD : va_D A (cRS h q1 q2 cA cB tf ff cw otd_16 an qb pa) := hD9.weaken (fun _ _ _ h => hFc _ h)
      have hw : R_make cw td ng fr un = (vt_14, vf_15, otd_16) := by unfold R_make; rw [if_neg c_1, if_neg c_2, tup3_e e_17]; try rfl
      exact W.aret hx hb hr (Or.inl ⟨_, rfl⟩) (Or.inr ⟨_, rfl⟩) (fun t9 ht hW => ⟨⟨(), y_13, rfl, trivial, ⟨vt_14, vf_15, otd_16, hw, by rw [ht]; exact hP, hD, by rw [ht]; exact hx_y_13, nx_y_13⟩⟩, hS.F ht⟩) hS.2.2 dX2_make_50
  · refine lv_iload_n hx hb dX2_make_6 rfl (lv_at hl 1 rfl) ?_
    have hFc : ∀ q, va_A [] s.heap.size q → A q := va_free (wc := []) hD hS hA [] rfl
    refine va_callr (va_runS (As := [.int (bI ng)]) (rest := []) ⟨hx, hb, hml, hown, hts⟩ (c_X2_zero l D ad ng s.heap.size) (va_cwS 1 hts gX2_make_X2_zero rfl rfl rfl kS_X2_zero ⟨Nat.le_of_ble_eq_true rfl, Nat.le_of_ble_eq_true rfl⟩) ⟨SCB.blind, SCB.pre hK vP_nil hE hS hFc⟩ rfl rfl hl.1 rfl (lv_room (Nat.le_of_ble_eq_true rfl)) dX2_make_7 ⟨Nat.le_of_ble_eq_true rfl, Nat.le_of_ble_eq_true rfl⟩) hS (fun q _ h9 => hFc q h9) hFc (fun u9 y_18 t9 H locs ht hvm hw hB hz1 hk1 hS => ?_)
    obtain ⟨vt_19, vf_20, e_21, hx_y_18, nz_y_18⟩ := hB
    rw [ht] at hx_y_18
    have nx_y_18 : ap3 y_18 h q1 q2 := ap_new hP nz_y_18
    have hP : va_P D vwCl (cRS h q1 q2 cA cB tf ff cw td an qb pa) H := ro_make hP hk1
    have hw : R_make cw td ng fr un = (vt_19, vf_20, td) := by unfold R_make; rw [if_pos c_1, tup2_e e_21]; try rfl
    exact W.aret hx hb hr (Or.inl ⟨_, rfl⟩) (Or.inr ⟨_, rfl⟩) (fun t9 ht hW => ⟨⟨(), y_18, rfl, trivial, ⟨vt_19, vf_20, td, hw, by rw [ht]; exact hP, hD, by rw [ht]; exact hx_y_18, nx_y_18⟩⟩, hS.F ht⟩) hS.2.2 dX2_make_10
def R_wholeOf (cw : Int32) (td : Int32) (tx : Int32) (fx : Int64) : Int32 × Int64 × Int32 :=
  if bI (R_isOf tx fx 4) = 0 then (if bI (R_nought tx fx) = 0 then (if 0 < (63 - (R_exp tx fx)) then (if bI (R_isCut (R_norm fx) (63 - (R_exp tx fx))) = 0 then (tup3 ((R_make cw td (R_neg tx) (R_rounded cw (R_neg tx) (R_norm fx) (63 - (R_exp tx fx))) 0)) (fun vt_11 vf_12 otd_13 =>
            (vt_11, vf_12, otd_13)))
        else (tup3 ((R_make cw (td ||| 32) (R_neg tx) (R_rounded cw (R_neg tx) (R_norm fx) (63 - (R_exp tx fx))) 0)) (fun vt_16 vf_17 otd_18 =>
            (vt_16, vf_17, otd_18))))
      else (tup3 ((R_make cw td (R_neg tx) fx (R_unit tx))) (fun vt_21 vf_22 otd_23 =>
          (vt_21, vf_22, otd_23))))
    else (tup3 ((R_make cw td (R_neg tx) fx (R_unit tx))) (fun vt_4 vf_5 otd_6 =>
        (vt_4, vf_5, otd_6))))
  else (tx, fx, td)
theorem kS_X2_wholeOf : yX2_wholeOf.cls ≠ "java/lang/invoke/MethodHandle" ∧ yX2_wholeOf.cls ≠ "java/lang/invoke/VarHandle" ∧ (parseMethodDescriptor yX2_wholeOf.desc).map (fun d => d.parameters.length) = some 1 := by decide +kernel
theorem kV_X2_wholeOf : yX2_wholeOf.cls = RX2 ∧ yX2_wholeOf.cls ≠ "java/lang/invoke/MethodHandle" ∧ yX2_wholeOf.cls ≠ "java/lang/invoke/VarHandle" ∧ (parseMethodDescriptor yX2_wholeOf.desc).map (fun d => d.parameters.length) = some 1 := ⟨rfl, kS_X2_wholeOf⟩
set_option maxHeartbeats 4000000 in
set_option maxRecDepth 100000 in
theorem c_X2_wholeOf (l : Launch) (D : va_G) (ad : Nat → Nat) (h : Nat) (q1 : Nat) (q2 : Nat) (cA : ClassId) (cB : ClassId) (tf : Nat → Int32) (ff : Nat → Int64) (cw : Int32) (td : Int32) (an : Bool) (qb : Int32) (pa : Bool) (x : Nat) (tx : Int32) (fx : Int64) (sz : Nat) : Met l yX2_wholeOf wsX2_wholeOf ({ frames := 7, cells := 1, slots := 2, locals := 181 } : Room) (va_Pc [.ref h, .ref x] (MRB D ad h q1 q2 (tRS cA cB) (cRS h q1 q2 cA cB tf ff cw td an qb pa) [cReal x tx fx] sz)) (va_Qr (fun (_ : Unit) => True) (fun _ a t => ∃ (w_t : Int32) (w_f : Int64) (w_td : Int32), R_wholeOf cw td tx fx = (w_t, w_f, w_td) ∧ va_P D vwCl (cRS h q1 q2 cA cB tf ff cw w_td an qb pa) t.heap ∧ va_D (va_A (cRS h q1 q2 cA cB tf ff cw td an qb pa) sz) (cRS h q1 q2 cA cB tf ff cw w_td an qb pa) ∧ va_P D vwCl [cReal a w_t w_f] t.heap ∧ ap3 a h q1 q2) (va_A (cRS h q1 q2 cA cB tf ff cw td an qb pa) sz)) 1 2 (va_A (cRS h q1 q2 cA cB tf ff cw td an qb pa) sz) := by
  refine Met.ofW (cc := cX2_wholeOf) (maxL := 6) (ret := (some (.object "RealSteps$Real"))) (by decide) rfl ?_
  intro p e s m args below meth c s₁ B hml hv
  obtain ⟨rfl, hsz, hP, hK, hD0, hR0, hRp, hE⟩ := hv
  have hx := B.exec
  have hb := B.bytes
  have hr := B.returns
  have hts := atoms_spec (ws := wsX2_wholeOf) B.pre
  have hown : s.vm.findClass RX2 = some m.cls := findClass_of_methodNamed B.named
  have hlocks := B.notSynchronized
  have w_1 := hts (.fieldLink RX2 106 "RealSteps$Kind" "INFINITE" "LRealSteps$Kind;") (by decide +kernel)
  have w_2 := hts (.initialized RX1) (by decide +kernel)
  have w_3 := hts (.instanceMethod yX1_isOf) (by decide +kernel)
  have w_4 := hts (.selects RX1 yX1_isOf yX1_isOf) (by decide +kernel)
  have w_5 := hts (.instanceMethod yX1_isNegative) (by decide +kernel)
  have w_6 := hts (.selects RX1 yX1_isNegative yX1_isNegative) (by decide +kernel)
  have w_7 := hts (.instanceMethod yX1_exponent) (by decide +kernel)
  have w_8 := hts (.selects RX1 yX1_exponent yX1_exponent) (by decide +kernel)
  have w_9 := hts (.instanceMethod yX1_isNought) (by decide +kernel)
  have w_10 := hts (.selects RX1 yX1_isNought yX1_isNought) (by decide +kernel)
  have in_X1 : ∀ w ∈ wsX10, w ∈ wsX2_wholeOf := by decide +kernel
  have w_12 := hts (.instanceMethod yX1_unit) (by decide +kernel)
  have w_13 := hts (.selects RX1 yX1_unit yX1_unit) (by decide +kernel)
  have w_14 := hts (.instanceMethod yX1_normalised) (by decide +kernel)
  have w_15 := hts (.selects RX1 yX1_normalised yX1_normalised) (by decide +kernel)
  have w_16 := hts (.fieldLink RX2 21 "RealSteps" "toldBits" "I") (by decide +kernel)
  have in_X2 : ∀ w ∈ wsX20, w ∈ wsX2_wholeOf := by decide +kernel
  subst hsz
  have hD := hD0.self (sz := s.heap.size)
  have hRA := rs_A hR0 hRp (e1 := .inr (1, [.ref q1, .ref q2, .int cw, .int td, .int (bI an), .int qb, .int (bI pa)])) (e2 := .inl (cA, 8, .inl tf)) (e3 := .inl (cB, 8, .inr (.inl ff)))
  generalize hAe : va_A (cRS h q1 q2 cA cB tf ff cw td an qb pa) s.heap.size = A at hD hE hRA ⊢
  have hA : ∀ q : Nat, s.heap.size ≤ q → A q := fun q h => by rw [← hAe]; exact Or.inr h
  have hS : va_S A s.heap s.heap [] := va_S.rf
  have hP : va_P D vwCl (cRS h q1 q2 cA cB tf ff cw td an qb pa) s.heap := hP
  have hl := lv_entry ([.ref h, .ref x]) (n := 6) (Nat.le_of_ble_eq_true rfl)
  rw [lg_entry_eq]
  generalize (lg_sl ([.ref h, .ref x]) ++ List.replicate (6 - (lg_sl ([.ref h, .ref x])).length) Slot.unset).toArray = ls at hl ⊢
  have hl : lv_has ls 6 [(0, .ref h), (1, .ref x)] := hl
  refine lv_aload_n hx hb dX2_wholeOf_0 rfl (lv_at hl 1 rfl) ?_
  refine va_gets (v := .ref (ad 4)) hx hb (hE.1.1 4 (by decide)).1 hS hown w_1 (fun _ h9 => h9) dX2_wholeOf_1 ?_
  refine vp_callSi (va_cr (va_runVN (As := [.ref (ad 4)]) (rest := []) ⟨hx, hb, hml, hown, hts⟩ (c_X1_isOf l D ad x tx fx 4 (by decide)) ⟨va_cnB 1 hts gX2_wholeOf_X1_isOf_n112 rfl rfl rfl (hE.2.1 _ (List.mem_of_getElem? (i := 0) rfl)) w_2 kS_X1_isOf ⟨Nat.le_of_ble_eq_true rfl, Nat.le_of_ble_eq_true rfl⟩, w_3, w_4⟩ ⟨EB.blind, va_recv hK (ro_now hR0 hRA hS) (ci := 0) (q0 := 0) rfl rfl, EB.pre (hK.sub [] rfl) ((ro_now hR0 hRA hS).sub [0] rfl) hE hS⟩ rfl rfl hl.1 rfl (lv_room (Nat.le_of_ble_eq_true rfl)) dX2_wholeOf_4 ⟨Nat.le_of_ble_eq_true rfl, Nat.le_of_ble_eq_true rfl⟩)) (fun r9 e9 => ?_)
  rw [e9]
  refine lv_if_eq (tgt := 12) hx hb dX2_wholeOf_7 (by decide) (fun c_1 => ?_) (fun c_1 => ?_)
  · refine lv_aload_n hx hb dX2_wholeOf_12 rfl (lv_at hl 1 rfl) ?_
    refine vp_callSi (va_cr (va_runVN (As := []) (rest := []) ⟨hx, hb, hml, hown, hts⟩ (c_X1_isNegative l D ad x tx fx) ⟨va_cnB 0 hts gX2_wholeOf_X1_isNegative_n137 rfl rfl rfl (hE.2.1 _ (List.mem_of_getElem? (i := 2) rfl)) w_2 kS_X1_isNegative ⟨Nat.le_of_ble_eq_true rfl, Nat.le_of_ble_eq_true rfl⟩, w_5, w_6⟩ ⟨EB.blind, va_recv hK (ro_now hR0 hRA hS) (ci := 0) (q0 := 0) rfl rfl, EB.pre (hK.sub [] rfl) ((ro_now hR0 hRA hS).sub [0] rfl) hE hS⟩ rfl rfl hl.1 rfl (lv_room (Nat.le_of_ble_eq_true rfl)) dX2_wholeOf_13 ⟨Nat.le_of_ble_eq_true rfl, Nat.le_of_ble_eq_true rfl⟩)) (fun r9 e9 => ?_)
    rw [e9]
    refine lv_istore_n (lv' := [(2, .int (bI (R_neg tx))), (0, .ref h), (1, .ref x)]) hx hb dX2_wholeOf_16 rfl hl (by decide) rfl (fun ls hl => ?_)
    refine lv_bipush (v := 63) hx hb dX2_wholeOf_17 (by decide) ?_
    refine lv_aload_n hx hb dX2_wholeOf_19 rfl (lv_at hl 2 rfl) ?_
    refine vp_callSi (va_cr (va_runVN (As := []) (rest := [.int 63]) ⟨hx, hb, hml, hown, hts⟩ (c_X1_exponent l D ad x tx fx) ⟨va_cnB 0 hts gX2_wholeOf_X1_exponent_n219 rfl rfl rfl (hE.2.1 _ (List.mem_of_getElem? (i := 3) rfl)) w_2 kS_X1_exponent ⟨Nat.le_of_ble_eq_true rfl, Nat.le_of_ble_eq_true rfl⟩, w_7, w_8⟩ ⟨EB.blind, va_recv hK (ro_now hR0 hRA hS) (ci := 0) (q0 := 0) rfl rfl, EB.pre (hK.sub [] rfl) ((ro_now hR0 hRA hS).sub [0] rfl) hE hS⟩ rfl rfl hl.1 rfl (lv_room (Nat.le_of_ble_eq_true rfl)) dX2_wholeOf_20 ⟨Nat.le_of_ble_eq_true rfl, Nat.le_of_ble_eq_true rfl⟩)) (fun r9 e9 => ?_)
    rw [e9]
    refine lv_isub hx hb dX2_wholeOf_23 ?_
    refine lv_istore_n (lv' := [(3, .int (63 - (R_exp tx fx))), (2, .int (bI (R_neg tx))), (0, .ref h), (1, .ref x)]) hx hb dX2_wholeOf_24 rfl hl (by decide) rfl (fun ls hl => ?_)
    refine lv_aload_n hx hb dX2_wholeOf_25 rfl (lv_at hl 3 rfl) ?_
    refine vp_callSi (va_cr (va_runVN (As := []) (rest := []) ⟨hx, hb, hml, hown, hts⟩ (c_X1_isNought l D ad x tx fx) ⟨va_cnB 0 hts gX2_wholeOf_X1_isNought_n96 rfl rfl rfl (hE.2.1 _ (List.mem_of_getElem? (i := 8) rfl)) w_2 kS_X1_isNought ⟨Nat.le_of_ble_eq_true rfl, Nat.le_of_ble_eq_true rfl⟩, w_9, w_10⟩ ⟨EB.blind, va_recv hK (ro_now hR0 hRA hS) (ci := 0) (q0 := 0) rfl rfl, EB.pre (hK.sub [] rfl) ((ro_now hR0 hRA hS).sub [0] rfl) hE hS⟩ rfl rfl hl.1 rfl (lv_room (Nat.le_of_ble_eq_true rfl)) dX2_wholeOf_26 ⟨Nat.le_of_ble_eq_true rfl, Nat.le_of_ble_eq_true rfl⟩)) (fun r9 e9 => ?_)
    rw [e9]
    refine lv_if_ne (tgt := 36) hx hb dX2_wholeOf_29 (by decide) (fun c_2 => ?_) (fun c_2 => ?_)
    · refine lv_aload_n hx hb dX2_wholeOf_36 rfl (lv_at hl 2 rfl) ?_
      refine lv_iload_n hx hb dX2_wholeOf_37 rfl (lv_at hl 1 rfl) ?_
      refine lv_aload_n hx hb dX2_wholeOf_38 rfl (lv_at hl 3 rfl) ?_
      refine va_getN (v := .long fx) (C := RX1) (T := TX1) (N := 2) hx hb hts in_X1 hown hK (ro_now hR0 hRA hS) 0 rfl rfl 1 (by decide) (va_Nw.use rfl (hE.2.1 (.fieldLinkNest RX2 150 "RealSteps$Real" "fraction" "J" RX2) (by decide))) (fun _ h9 => h9) rfl dX2_wholeOf_39 ?_
      refine lv_aload_n hx hb dX2_wholeOf_42 rfl (lv_at hl 3 rfl) ?_
      refine vp_callSi (va_cr (va_runVN (As := []) (rest := [.long fx, .int (bI (R_neg tx)), .ref h]) ⟨hx, hb, hml, hown, hts⟩ (c_X1_unit l D ad x tx fx) ⟨va_cnB 0 hts gX2_wholeOf_X1_unit_n222 rfl rfl rfl (hE.2.1 _ (List.mem_of_getElem? (i := 4) rfl)) w_2 kS_X1_unit ⟨Nat.le_of_ble_eq_true rfl, Nat.le_of_ble_eq_true rfl⟩, w_12, w_13⟩ ⟨EB.blind, va_recv hK (ro_now hR0 hRA hS) (ci := 0) (q0 := 0) rfl rfl, EB.pre (hK.sub [] rfl) ((ro_now hR0 hRA hS).sub [0] rfl) hE hS⟩ rfl rfl hl.1 rfl (lv_room (Nat.le_of_ble_eq_true rfl)) dX2_wholeOf_43 ⟨Nat.le_of_ble_eq_true rfl, Nat.le_of_ble_eq_true rfl⟩)) (fun r9 e9 => ?_)
      rw [e9]
      have hFc := va_free (wc := cRS h q1 q2 cA cB tf ff cw td an qb pa) hD hS hA [0, 1, 2] rfl
      refine va_callr (va_runV (As := [.int (bI (R_neg tx)), .long fx, .int (R_unit tx)]) (rest := []) ⟨hx, hb, hml, hown, hts⟩ (c_X2_make l D ad h q1 q2 cA cB tf ff cw td an qb pa (R_neg tx) fx (R_unit tx) s.heap.size) (cwV 3 hts gX2_wholeOf_X2_make rfl rfl rfl kV_X2_make ⟨Nat.le_of_ble_eq_true rfl, Nat.le_of_ble_eq_true rfl⟩) ⟨MRB.blind, va_recv hK hP (ci := 1) (q0 := 0) rfl rfl, MRB.pre hK hP hD vP_nil ap_nil hE hS hFc⟩ rfl rfl hl.1 rfl (lv_room (Nat.le_of_ble_eq_true rfl)) dX2_wholeOf_46 ⟨Nat.le_of_ble_eq_true rfl, Nat.le_of_ble_eq_true rfl⟩) hS (fun q _ h9 => hFc q h9) hFc (fun u9 y_3 t9 H locs ht hvm hw hB hz1 hk1 hS => ?_)
      obtain ⟨vt_4, vf_5, otd_6, e_7, hP, hD9, hx_y_3, nx_y_3⟩ := hB
      rw [ht] at hP hx_y_3
      have hD : va_D A (cRS h q1 q2 cA cB tf ff cw otd_6 an qb pa) := hD9.weaken (fun _ _ _ h => hFc _ h)
      have hw : R_wholeOf cw td tx fx = (vt_4, vf_5, otd_6) := by unfold R_wholeOf; rw [if_pos c_1, if_neg c_2, tup3_e e_7]; try rfl
      exact W.aret hx hb hr (Or.inl ⟨_, rfl⟩) (Or.inr ⟨_, rfl⟩) (fun t9 ht hW => ⟨⟨(), y_3, rfl, trivial, ⟨vt_4, vf_5, otd_6, hw, by rw [ht]; exact hP, hD, by rw [ht]; exact hx_y_3, nx_y_3⟩⟩, hS.F ht⟩) hS.2.2 dX2_wholeOf_49
    · refine lv_iload_n hx hb dX2_wholeOf_32 rfl (lv_at hl 0 rfl) ?_
      refine lv_if_gt (tgt := 50) hx hb dX2_wholeOf_33 (by decide) (fun c_8 => ?_) (fun c_8 => ?_)
      · refine lv_aload_n hx hb dX2_wholeOf_50 rfl (lv_at hl 3 rfl) ?_
        refine vp_callSl (va_cr (va_runVN (As := []) (rest := []) ⟨hx, hb, hml, hown, hts⟩ (c_X1_normalised l D ad x tx fx) ⟨va_cnB 0 hts gX2_wholeOf_X1_normalised_n229 rfl rfl rfl (hE.2.1 _ (List.mem_of_getElem? (i := 5) rfl)) w_2 kS_X1_normalised ⟨Nat.le_of_ble_eq_true rfl, Nat.le_of_ble_eq_true rfl⟩, w_14, w_15⟩ ⟨EB.blind, va_recv hK (ro_now hR0 hRA hS) (ci := 0) (q0 := 0) rfl rfl, EB.pre (hK.sub [] rfl) ((ro_now hR0 hRA hS).sub [0] rfl) hE hS⟩ rfl rfl hl.1 rfl (lv_room (Nat.le_of_ble_eq_true rfl)) dX2_wholeOf_51 ⟨Nat.le_of_ble_eq_true rfl, Nat.le_of_ble_eq_true rfl⟩)) (fun r9 e9 => ?_)
        rw [e9]
        refine lv_lstore (lv' := [(4, .long (R_norm fx)), (3, .int (63 - (R_exp tx fx))), (2, .int (bI (R_neg tx))), (0, .ref h), (1, .ref x)]) hx hb dX2_wholeOf_54 hl (by decide) rfl (fun ls hl => ?_)
        refine lv_lload hx hb dX2_wholeOf_56 (lv_at hl 0 rfl) ?_
        refine lv_iload_n hx hb dX2_wholeOf_58 rfl (lv_at hl 1 rfl) ?_
        refine vp_callSi (va_cr (va_runS (As := [.long (R_norm fx), .int (63 - (R_exp tx fx))]) (rest := []) ⟨hx, hb, hml, hown, hts⟩ (c_X2_isCut l (R_norm fx) (63 - (R_exp tx fx))) (va_cwS 2 hts gX2_wholeOf_X2_isCut rfl rfl rfl kS_X2_isCut ⟨Nat.le_of_ble_eq_true rfl, Nat.le_of_ble_eq_true rfl⟩) ⟨TB.blind, TB.pre⟩ rfl rfl hl.1 rfl (lv_room (Nat.le_of_ble_eq_true rfl)) dX2_wholeOf_59 ⟨Nat.le_of_ble_eq_true rfl, Nat.le_of_ble_eq_true rfl⟩)) (fun r9 e9 => ?_)
        rw [e9]
        refine lv_if_eq (tgt := 76) hx hb dX2_wholeOf_62 (by decide) (fun c_9 => ?_) (fun c_9 => ?_)
        · refine lv_aload_n hx hb dX2_wholeOf_76 rfl (lv_at hl 3 rfl) ?_
          refine lv_iload_n hx hb dX2_wholeOf_77 rfl (lv_at hl 2 rfl) ?_
          refine lv_aload_n hx hb dX2_wholeOf_78 rfl (lv_at hl 3 rfl) ?_
          refine lv_iload_n hx hb dX2_wholeOf_79 rfl (lv_at hl 2 rfl) ?_
          refine lv_lload hx hb dX2_wholeOf_80 (lv_at hl 0 rfl) ?_
          refine lv_iload_n hx hb dX2_wholeOf_82 rfl (lv_at hl 1 rfl) ?_
          refine vp_callSl (va_cr (va_runV (As := [.int (bI (R_neg tx)), .long (R_norm fx), .int (63 - (R_exp tx fx))]) (rest := [.int (bI (R_neg tx)), .ref h]) ⟨hx, hb, hml, hown, hts⟩ (c_X2_rounded l D h q1 q2 cw td an qb pa (R_neg tx) (R_norm fx) (63 - (R_exp tx fx))) (cwV 3 hts gX2_wholeOf_X2_rounded rfl rfl rfl kV_X2_rounded ⟨Nat.le_of_ble_eq_true rfl, Nat.le_of_ble_eq_true rfl⟩) ⟨PB.blind, va_recv hK hP (ci := 1) (q0 := 0) rfl rfl, PB.pre (hK.sub [] rfl) (hP.sub [0] rfl)⟩ rfl rfl hl.1 rfl (lv_room (Nat.le_of_ble_eq_true rfl)) dX2_wholeOf_83 ⟨Nat.le_of_ble_eq_true rfl, Nat.le_of_ble_eq_true rfl⟩)) (fun r9 e9 => ?_)
          rw [e9]
          refine lv_iconst (v := 0) hx hb dX2_wholeOf_86 (by decide) ?_
          have hFc := va_free (wc := cRS h q1 q2 cA cB tf ff cw td an qb pa) hD hS hA [0, 1, 2] rfl
          refine va_callr (va_runV (As := [.int (bI (R_neg tx)), .long (R_rounded cw (R_neg tx) (R_norm fx) (63 - (R_exp tx fx))), .int 0]) (rest := []) ⟨hx, hb, hml, hown, hts⟩ (c_X2_make l D ad h q1 q2 cA cB tf ff cw td an qb pa (R_neg tx) (R_rounded cw (R_neg tx) (R_norm fx) (63 - (R_exp tx fx))) 0 s.heap.size) (cwV 3 hts gX2_wholeOf_X2_make rfl rfl rfl kV_X2_make ⟨Nat.le_of_ble_eq_true rfl, Nat.le_of_ble_eq_true rfl⟩) ⟨MRB.blind, va_recv hK hP (ci := 1) (q0 := 0) rfl rfl, MRB.pre hK hP hD vP_nil ap_nil hE hS hFc⟩ rfl rfl hl.1 rfl (lv_room (Nat.le_of_ble_eq_true rfl)) dX2_wholeOf_87 ⟨Nat.le_of_ble_eq_true rfl, Nat.le_of_ble_eq_true rfl⟩) hS (fun q _ h9 => hFc q h9) hFc (fun u9 y_10 t9 H locs ht hvm hw hB hz1 hk1 hS => ?_)
          obtain ⟨vt_11, vf_12, otd_13, e_14, hP, hD9, hx_y_10, nx_y_10⟩ := hB
          rw [ht] at hP hx_y_10
          have hD : va_D A (cRS h q1 q2 cA cB tf ff cw otd_13 an qb pa) := hD9.weaken (fun _ _ _ h => hFc _ h)
          have hw : R_wholeOf cw td tx fx = (vt_11, vf_12, otd_13) := by unfold R_wholeOf; rw [if_pos c_1, if_pos c_2, if_pos c_8, if_pos c_9, tup3_e e_14]; try rfl
          exact W.aret hx hb hr (Or.inl ⟨_, rfl⟩) (Or.inr ⟨_, rfl⟩) (fun t9 ht hW => ⟨⟨(), y_10, rfl, trivial, ⟨vt_11, vf_12, otd_13, hw, by rw [ht]; exact hP, hD, by rw [ht]; exact hx_y_10, nx_y_10⟩⟩, hS.F ht⟩) hS.2.2 dX2_wholeOf_90
        · refine lv_aload_n hx hb dX2_wholeOf_65 rfl (lv_at hl 3 rfl) ?_
          refine lv_dup hx hb dX2_wholeOf_66 rfl ?_
          refine va_get (v := .int td) (C := RX2) (T := TX2) (N := 7) hx hb hts in_X2 hown hK hP 0 rfl rfl 3 (by decide) w_16 (fun _ h9 => h9) rfl dX2_wholeOf_67 ?_
          refine lv_bipush (v := 32) hx hb dX2_wholeOf_70 (by decide) ?_
          refine lv_ior hx hb dX2_wholeOf_72 ?_
          refine va_put (v := .int (td ||| 32)) (ty := .int) (C := RX2) (T := TX2) (N := 7) hx hb hts in_X2 tyX2 tyX2_ok nmX2 hown hK hP hD hS 0 rfl rfl 3 (by decide) w_16 (fun _ h9 => h9) rfl (tyX2_ok 3 (by decide)) rfl rfl (Nat.le_of_ble_eq_true rfl) dX2_wholeOf_73 (fun H locs hP hD hS => ?_)
          have hP : va_P D vwCl (cRS h q1 q2 cA cB tf ff cw (td ||| 32) an qb pa) H := hP
          have hD : va_D A (cRS h q1 q2 cA cB tf ff cw (td ||| 32) an qb pa) := hD
          refine lv_aload_n hx hb dX2_wholeOf_76 rfl (lv_at hl 3 rfl) ?_
          refine lv_iload_n hx hb dX2_wholeOf_77 rfl (lv_at hl 2 rfl) ?_
          refine lv_aload_n hx hb dX2_wholeOf_78 rfl (lv_at hl 3 rfl) ?_
          refine lv_iload_n hx hb dX2_wholeOf_79 rfl (lv_at hl 2 rfl) ?_
          refine lv_lload hx hb dX2_wholeOf_80 (lv_at hl 0 rfl) ?_
          refine lv_iload_n hx hb dX2_wholeOf_82 rfl (lv_at hl 1 rfl) ?_
          refine vp_callSl (va_cr (va_runV (As := [.int (bI (R_neg tx)), .long (R_norm fx), .int (63 - (R_exp tx fx))]) (rest := [.int (bI (R_neg tx)), .ref h]) ⟨hx, hb, hml, hown, hts⟩ (c_X2_rounded l D h q1 q2 cw (td ||| 32) an qb pa (R_neg tx) (R_norm fx) (63 - (R_exp tx fx))) (cwV 3 hts gX2_wholeOf_X2_rounded rfl rfl rfl kV_X2_rounded ⟨Nat.le_of_ble_eq_true rfl, Nat.le_of_ble_eq_true rfl⟩) ⟨PB.blind, va_recv hK hP (ci := 1) (q0 := 0) rfl rfl, PB.pre (hK.sub [] rfl) (hP.sub [0] rfl)⟩ rfl rfl hl.1 rfl (lv_room (Nat.le_of_ble_eq_true rfl)) dX2_wholeOf_83 ⟨Nat.le_of_ble_eq_true rfl, Nat.le_of_ble_eq_true rfl⟩)) (fun r9 e9 => ?_)
          rw [e9]
          refine lv_iconst (v := 0) hx hb dX2_wholeOf_86 (by decide) ?_
          have hFc := va_free (wc := cRS h q1 q2 cA cB tf ff cw (td ||| 32) an qb pa) hD hS hA [0, 1, 2] rfl
          refine va_callr (va_runV (As := [.int (bI (R_neg tx)), .long (R_rounded cw (R_neg tx) (R_norm fx) (63 - (R_exp tx fx))), .int 0]) (rest := []) ⟨hx, hb, hml, hown, hts⟩ (c_X2_make l D ad h q1 q2 cA cB tf ff cw (td ||| 32) an qb pa (R_neg tx) (R_rounded cw (R_neg tx) (R_norm fx) (63 - (R_exp tx fx))) 0 H.size) (cwV 3 hts gX2_wholeOf_X2_make rfl rfl rfl kV_X2_make ⟨Nat.le_of_ble_eq_true rfl, Nat.le_of_ble_eq_true rfl⟩) ⟨MRB.blind, va_recv hK hP (ci := 1) (q0 := 0) rfl rfl, MRB.pre hK hP hD vP_nil ap_nil hE hS hFc⟩ rfl rfl hl.1 rfl (lv_room (Nat.le_of_ble_eq_true rfl)) dX2_wholeOf_87 ⟨Nat.le_of_ble_eq_true rfl, Nat.le_of_ble_eq_true rfl⟩) hS (fun q _ h9 => hFc q h9) hFc (fun u9 y_15 t9 H locs ht hvm hw hB hz1 hk1 hS => ?_)
          obtain ⟨vt_16, vf_17, otd_18, e_19, hP, hD9, hx_y_15, nx_y_15⟩ := hB
          rw [ht] at hP hx_y_15
          have hD : va_D A (cRS h q1 q2 cA cB tf ff cw otd_18 an qb pa) := hD9.weaken (fun _ _ _ h => hFc _ h)
          have hw : R_wholeOf cw td tx fx = (vt_16, vf_17, otd_18) := by unfold R_wholeOf; rw [if_pos c_1, if_pos c_2, if_pos c_8, if_neg c_9, tup3_e e_19]; try rfl
          exact W.aret hx hb hr (Or.inl ⟨_, rfl⟩) (Or.inr ⟨_, rfl⟩) (fun t9 ht hW => ⟨⟨(), y_15, rfl, trivial, ⟨vt_16, vf_17, otd_18, hw, by rw [ht]; exact hP, hD, by rw [ht]; exact hx_y_15, nx_y_15⟩⟩, hS.F ht⟩) hS.2.2 dX2_wholeOf_90
      · refine lv_aload_n hx hb dX2_wholeOf_36 rfl (lv_at hl 2 rfl) ?_
        refine lv_iload_n hx hb dX2_wholeOf_37 rfl (lv_at hl 1 rfl) ?_
        refine lv_aload_n hx hb dX2_wholeOf_38 rfl (lv_at hl 3 rfl) ?_
        refine va_getN (v := .long fx) (C := RX1) (T := TX1) (N := 2) hx hb hts in_X1 hown hK (ro_now hR0 hRA hS) 0 rfl rfl 1 (by decide) (va_Nw.use rfl (hE.2.1 (.fieldLinkNest RX2 150 "RealSteps$Real" "fraction" "J" RX2) (by decide))) (fun _ h9 => h9) rfl dX2_wholeOf_39 ?_
        refine lv_aload_n hx hb dX2_wholeOf_42 rfl (lv_at hl 3 rfl) ?_
        refine vp_callSi (va_cr (va_runVN (As := []) (rest := [.long fx, .int (bI (R_neg tx)), .ref h]) ⟨hx, hb, hml, hown, hts⟩ (c_X1_unit l D ad x tx fx) ⟨va_cnB 0 hts gX2_wholeOf_X1_unit_n222 rfl rfl rfl (hE.2.1 _ (List.mem_of_getElem? (i := 4) rfl)) w_2 kS_X1_unit ⟨Nat.le_of_ble_eq_true rfl, Nat.le_of_ble_eq_true rfl⟩, w_12, w_13⟩ ⟨EB.blind, va_recv hK (ro_now hR0 hRA hS) (ci := 0) (q0 := 0) rfl rfl, EB.pre (hK.sub [] rfl) ((ro_now hR0 hRA hS).sub [0] rfl) hE hS⟩ rfl rfl hl.1 rfl (lv_room (Nat.le_of_ble_eq_true rfl)) dX2_wholeOf_43 ⟨Nat.le_of_ble_eq_true rfl, Nat.le_of_ble_eq_true rfl⟩)) (fun r9 e9 => ?_)
        rw [e9]
        have hFc := va_free (wc := cRS h q1 q2 cA cB tf ff cw td an qb pa) hD hS hA [0, 1, 2] rfl
        refine va_callr (va_runV (As := [.int (bI (R_neg tx)), .long fx, .int (R_unit tx)]) (rest := []) ⟨hx, hb, hml, hown, hts⟩ (c_X2_make l D ad h q1 q2 cA cB tf ff cw td an qb pa (R_neg tx) fx (R_unit tx) s.heap.size) (cwV 3 hts gX2_wholeOf_X2_make rfl rfl rfl kV_X2_make ⟨Nat.le_of_ble_eq_true rfl, Nat.le_of_ble_eq_true rfl⟩) ⟨MRB.blind, va_recv hK hP (ci := 1) (q0 := 0) rfl rfl, MRB.pre hK hP hD vP_nil ap_nil hE hS hFc⟩ rfl rfl hl.1 rfl (lv_room (Nat.le_of_ble_eq_true rfl)) dX2_wholeOf_46 ⟨Nat.le_of_ble_eq_true rfl, Nat.le_of_ble_eq_true rfl⟩) hS (fun q _ h9 => hFc q h9) hFc (fun u9 y_20 t9 H locs ht hvm hw hB hz1 hk1 hS => ?_)
        obtain ⟨vt_21, vf_22, otd_23, e_24, hP, hD9, hx_y_20, nx_y_20⟩ := hB
        rw [ht] at hP hx_y_20
        have hD : va_D A (cRS h q1 q2 cA cB tf ff cw otd_23 an qb pa) := hD9.weaken (fun _ _ _ h => hFc _ h)
        have hw : R_wholeOf cw td tx fx = (vt_21, vf_22, otd_23) := by unfold R_wholeOf; rw [if_pos c_1, if_pos c_2, if_neg c_8, tup3_e e_24]; try rfl
        exact W.aret hx hb hr (Or.inl ⟨_, rfl⟩) (Or.inr ⟨_, rfl⟩) (fun t9 ht hW => ⟨⟨(), y_20, rfl, trivial, ⟨vt_21, vf_22, otd_23, hw, by rw [ht]; exact hP, hD, by rw [ht]; exact hx_y_20, nx_y_20⟩⟩, hS.F ht⟩) hS.2.2 dX2_wholeOf_49
  · refine lv_aload_n hx hb dX2_wholeOf_10 rfl (lv_at hl 1 rfl) ?_
    refine W.widen (k := 1) (n := 2) (Nat.le_of_ble_eq_true rfl) (Nat.le_of_ble_eq_true rfl) ?_
    have hw : R_wholeOf cw td tx fx = (tx, fx, td) := by unfold R_wholeOf; rw [if_neg c_1]; try rfl
    exact W.aret hx hb hr (Or.inl ⟨_, rfl⟩) (Or.inr ⟨_, rfl⟩) (fun t9 ht hW => ⟨⟨(), x, rfl, trivial, ⟨tx, fx, td, hw, by rw [ht]; exact hP, hD, by rw [ht]; exact ((ro_now hR0 hRA hS).sub [0] rfl), (hRp _ (List.mem_of_getElem? (i := 0) rfl))⟩⟩, hS.F ht⟩) hS.2.2 dX2_wholeOf_11
def R_scaled (cw : Int32) (td : Int32) (tx : Int32) (fx : Int64) (ty : Int32) (fy : Int64) : Int32 × Int64 × Int32 :=
  if bI (R_isOf tx fx 4) = 0 then (tup3 ((R_make cw td (R_neg tx) fx ((R_unit tx) + (R_cutOff ty fy)))) (fun vt_3 vf_4 otd_5 =>
      (vt_3, vf_4, otd_5)))
  else (tx, fx, td)
theorem kS_X2_scaled : yX2_scaled.cls ≠ "java/lang/invoke/MethodHandle" ∧ yX2_scaled.cls ≠ "java/lang/invoke/VarHandle" ∧ (parseMethodDescriptor yX2_scaled.desc).map (fun d => d.parameters.length) = some 2 := by decide +kernel
theorem kV_X2_scaled : yX2_scaled.cls = RX2 ∧ yX2_scaled.cls ≠ "java/lang/invoke/MethodHandle" ∧ yX2_scaled.cls ≠ "java/lang/invoke/VarHandle" ∧ (parseMethodDescriptor yX2_scaled.desc).map (fun d => d.parameters.length) = some 2 := ⟨rfl, kS_X2_scaled⟩
set_option maxHeartbeats 4000000 in
set_option maxRecDepth 100000 in
theorem c_X2_scaled (l : Launch) (D : va_G) (ad : Nat → Nat) (h : Nat) (q1 : Nat) (q2 : Nat) (cA : ClassId) (cB : ClassId) (tf : Nat → Int32) (ff : Nat → Int64) (cw : Int32) (td : Int32) (an : Bool) (qb : Int32) (pa : Bool) (x : Nat) (tx : Int32) (fx : Int64) (y : Nat) (ty : Int32) (fy : Int64) (sz : Nat) : Met l yX2_scaled wsX2_scaled ({ frames := 7, cells := 1, slots := 2, locals := 181 } : Room) (va_Pc [.ref h, .ref x, .ref y] (MRB D ad h q1 q2 (tRS cA cB) (cRS h q1 q2 cA cB tf ff cw td an qb pa) [cReal x tx fx, cReal y ty fy] sz)) (va_Qr (fun (_ : Unit) => True) (fun _ a t => ∃ (w_t : Int32) (w_f : Int64) (w_td : Int32), R_scaled cw td tx fx ty fy = (w_t, w_f, w_td) ∧ va_P D vwCl (cRS h q1 q2 cA cB tf ff cw w_td an qb pa) t.heap ∧ va_D (va_A (cRS h q1 q2 cA cB tf ff cw td an qb pa) sz) (cRS h q1 q2 cA cB tf ff cw w_td an qb pa) ∧ va_P D vwCl [cReal a w_t w_f] t.heap ∧ ap3 a h q1 q2) (va_A (cRS h q1 q2 cA cB tf ff cw td an qb pa) sz)) 1 2 (va_A (cRS h q1 q2 cA cB tf ff cw td an qb pa) sz) := by
  refine Met.ofW (cc := cX2_scaled) (maxL := 3) (ret := (some (.object "RealSteps$Real"))) (by decide) rfl ?_
  intro p e s m args below meth c s₁ B hml hv
  obtain ⟨rfl, hsz, hP, hK, hD0, hR0, hRp, hE⟩ := hv
  have hx := B.exec
  have hb := B.bytes
  have hr := B.returns
  have hts := atoms_spec (ws := wsX2_scaled) B.pre
  have hown : s.vm.findClass RX2 = some m.cls := findClass_of_methodNamed B.named
  have hlocks := B.notSynchronized
  have w_1 := hts (.fieldLink RX2 106 "RealSteps$Kind" "INFINITE" "LRealSteps$Kind;") (by decide +kernel)
  have w_2 := hts (.initialized RX1) (by decide +kernel)
  have w_3 := hts (.instanceMethod yX1_isOf) (by decide +kernel)
  have w_4 := hts (.selects RX1 yX1_isOf yX1_isOf) (by decide +kernel)
  have w_5 := hts (.instanceMethod yX1_isNegative) (by decide +kernel)
  have w_6 := hts (.selects RX1 yX1_isNegative yX1_isNegative) (by decide +kernel)
  have in_X1 : ∀ w ∈ wsX10, w ∈ wsX2_scaled := by decide +kernel
  have w_8 := hts (.instanceMethod yX1_unit) (by decide +kernel)
  have w_9 := hts (.selects RX1 yX1_unit yX1_unit) (by decide +kernel)
  subst hsz
  have hD := hD0.self (sz := s.heap.size)
  have hRA := rs_A hR0 hRp (e1 := .inr (1, [.ref q1, .ref q2, .int cw, .int td, .int (bI an), .int qb, .int (bI pa)])) (e2 := .inl (cA, 8, .inl tf)) (e3 := .inl (cB, 8, .inr (.inl ff)))
  generalize hAe : va_A (cRS h q1 q2 cA cB tf ff cw td an qb pa) s.heap.size = A at hD hE hRA ⊢
  have hA : ∀ q : Nat, s.heap.size ≤ q → A q := fun q h => by rw [← hAe]; exact Or.inr h
  have hS : va_S A s.heap s.heap [] := va_S.rf
  have hP : va_P D vwCl (cRS h q1 q2 cA cB tf ff cw td an qb pa) s.heap := hP
  have hl := lv_entry ([.ref h, .ref x, .ref y]) (n := 3) (Nat.le_of_ble_eq_true rfl)
  rw [lg_entry_eq]
  generalize (lg_sl ([.ref h, .ref x, .ref y]) ++ List.replicate (3 - (lg_sl ([.ref h, .ref x, .ref y])).length) Slot.unset).toArray = ls at hl ⊢
  have hl : lv_has ls 3 [(0, .ref h), (1, .ref x), (2, .ref y)] := hl
  refine lv_aload_n hx hb dX2_scaled_0 rfl (lv_at hl 1 rfl) ?_
  refine va_gets (v := .ref (ad 4)) hx hb (hE.1.1 4 (by decide)).1 hS hown w_1 (fun _ h9 => h9) dX2_scaled_1 ?_
  refine vp_callSi (va_cr (va_runVN (As := [.ref (ad 4)]) (rest := []) ⟨hx, hb, hml, hown, hts⟩ (c_X1_isOf l D ad x tx fx 4 (by decide)) ⟨va_cnB 1 hts gX2_scaled_X1_isOf_n112 rfl rfl rfl (hE.2.1 _ (List.mem_of_getElem? (i := 0) rfl)) w_2 kS_X1_isOf ⟨Nat.le_of_ble_eq_true rfl, Nat.le_of_ble_eq_true rfl⟩, w_3, w_4⟩ ⟨EB.blind, va_recv hK (ro_now hR0 hRA hS) (ci := 0) (q0 := 0) rfl rfl, EB.pre (hK.sub [] rfl) ((ro_now hR0 hRA hS).sub [0] rfl) hE hS⟩ rfl rfl hl.1 rfl (lv_room (Nat.le_of_ble_eq_true rfl)) dX2_scaled_4 ⟨Nat.le_of_ble_eq_true rfl, Nat.le_of_ble_eq_true rfl⟩)) (fun r9 e9 => ?_)
  rw [e9]
  refine lv_if_eq (tgt := 12) hx hb dX2_scaled_7 (by decide) (fun c_1 => ?_) (fun c_1 => ?_)
  · refine lv_aload_n hx hb dX2_scaled_12 rfl (lv_at hl 0 rfl) ?_
    refine lv_aload_n hx hb dX2_scaled_13 rfl (lv_at hl 1 rfl) ?_
    refine vp_callSi (va_cr (va_runVN (As := []) (rest := [.ref h]) ⟨hx, hb, hml, hown, hts⟩ (c_X1_isNegative l D ad x tx fx) ⟨va_cnB 0 hts gX2_scaled_X1_isNegative_n137 rfl rfl rfl (hE.2.1 _ (List.mem_of_getElem? (i := 2) rfl)) w_2 kS_X1_isNegative ⟨Nat.le_of_ble_eq_true rfl, Nat.le_of_ble_eq_true rfl⟩, w_5, w_6⟩ ⟨EB.blind, va_recv hK (ro_now hR0 hRA hS) (ci := 0) (q0 := 0) rfl rfl, EB.pre (hK.sub [] rfl) ((ro_now hR0 hRA hS).sub [0] rfl) hE hS⟩ rfl rfl hl.1 rfl (lv_room (Nat.le_of_ble_eq_true rfl)) dX2_scaled_14 ⟨Nat.le_of_ble_eq_true rfl, Nat.le_of_ble_eq_true rfl⟩)) (fun r9 e9 => ?_)
    rw [e9]
    refine lv_aload_n hx hb dX2_scaled_17 rfl (lv_at hl 1 rfl) ?_
    refine va_getN (v := .long fx) (C := RX1) (T := TX1) (N := 2) hx hb hts in_X1 hown hK (ro_now hR0 hRA hS) 0 rfl rfl 1 (by decide) (va_Nw.use rfl (hE.2.1 (.fieldLinkNest RX2 150 "RealSteps$Real" "fraction" "J" RX2) (by decide))) (fun _ h9 => h9) rfl dX2_scaled_18 ?_
    refine lv_aload_n hx hb dX2_scaled_21 rfl (lv_at hl 1 rfl) ?_
    refine vp_callSi (va_cr (va_runVN (As := []) (rest := [.long fx, .int (bI (R_neg tx)), .ref h]) ⟨hx, hb, hml, hown, hts⟩ (c_X1_unit l D ad x tx fx) ⟨va_cnB 0 hts gX2_scaled_X1_unit_n222 rfl rfl rfl (hE.2.1 _ (List.mem_of_getElem? (i := 4) rfl)) w_2 kS_X1_unit ⟨Nat.le_of_ble_eq_true rfl, Nat.le_of_ble_eq_true rfl⟩, w_8, w_9⟩ ⟨EB.blind, va_recv hK (ro_now hR0 hRA hS) (ci := 0) (q0 := 0) rfl rfl, EB.pre (hK.sub [] rfl) ((ro_now hR0 hRA hS).sub [0] rfl) hE hS⟩ rfl rfl hl.1 rfl (lv_room (Nat.le_of_ble_eq_true rfl)) dX2_scaled_22 ⟨Nat.le_of_ble_eq_true rfl, Nat.le_of_ble_eq_true rfl⟩)) (fun r9 e9 => ?_)
    rw [e9]
    refine lv_aload_n hx hb dX2_scaled_25 rfl (lv_at hl 2 rfl) ?_
    refine vp_callSi (va_cr (va_runS (As := [.ref y]) (rest := [.int (R_unit tx), .long fx, .int (bI (R_neg tx)), .ref h]) ⟨hx, hb, hml, hown, hts⟩ (c_X2_cutOff l D ad y ty fy) (va_cwS 1 hts gX2_scaled_X2_cutOff rfl rfl rfl kS_X2_cutOff ⟨Nat.le_of_ble_eq_true rfl, Nat.le_of_ble_eq_true rfl⟩) ⟨EB.blind, EB.pre (hK.sub [] rfl) ((ro_now hR0 hRA hS).sub [1] rfl) hE hS⟩ rfl rfl hl.1 rfl (lv_room (Nat.le_of_ble_eq_true rfl)) dX2_scaled_26 ⟨Nat.le_of_ble_eq_true rfl, Nat.le_of_ble_eq_true rfl⟩)) (fun r9 e9 => ?_)
    rw [e9]
    refine lv_iadd hx hb dX2_scaled_29 ?_
    have hFc := va_free (wc := cRS h q1 q2 cA cB tf ff cw td an qb pa) hD hS hA [0, 1, 2] rfl
    refine va_callr (va_runV (As := [.int (bI (R_neg tx)), .long fx, .int ((R_unit tx) + (R_cutOff ty fy))]) (rest := []) ⟨hx, hb, hml, hown, hts⟩ (c_X2_make l D ad h q1 q2 cA cB tf ff cw td an qb pa (R_neg tx) fx ((R_unit tx) + (R_cutOff ty fy)) s.heap.size) (cwV 3 hts gX2_scaled_X2_make rfl rfl rfl kV_X2_make ⟨Nat.le_of_ble_eq_true rfl, Nat.le_of_ble_eq_true rfl⟩) ⟨MRB.blind, va_recv hK hP (ci := 1) (q0 := 0) rfl rfl, MRB.pre hK hP hD vP_nil ap_nil hE hS hFc⟩ rfl rfl hl.1 rfl (lv_room (Nat.le_of_ble_eq_true rfl)) dX2_scaled_30 ⟨Nat.le_of_ble_eq_true rfl, Nat.le_of_ble_eq_true rfl⟩) hS (fun q _ h9 => hFc q h9) hFc (fun u9 y_2 t9 H locs ht hvm hw hB hz1 hk1 hS => ?_)
    obtain ⟨vt_3, vf_4, otd_5, e_6, hP, hD9, hx_y_2, nx_y_2⟩ := hB
    rw [ht] at hP hx_y_2
    have hD : va_D A (cRS h q1 q2 cA cB tf ff cw otd_5 an qb pa) := hD9.weaken (fun _ _ _ h => hFc _ h)
    have hw : R_scaled cw td tx fx ty fy = (vt_3, vf_4, otd_5) := by unfold R_scaled; rw [if_pos c_1, tup3_e e_6]; try rfl
    exact W.aret hx hb hr (Or.inl ⟨_, rfl⟩) (Or.inr ⟨_, rfl⟩) (fun t9 ht hW => ⟨⟨(), y_2, rfl, trivial, ⟨vt_3, vf_4, otd_5, hw, by rw [ht]; exact hP, hD, by rw [ht]; exact hx_y_2, nx_y_2⟩⟩, hS.F ht⟩) hS.2.2 dX2_scaled_33
  · refine lv_aload_n hx hb dX2_scaled_10 rfl (lv_at hl 1 rfl) ?_
    refine W.widen (k := 1) (n := 2) (Nat.le_of_ble_eq_true rfl) (Nat.le_of_ble_eq_true rfl) ?_
    have hw : R_scaled cw td tx fx ty fy = (tx, fx, td) := by unfold R_scaled; rw [if_neg c_1]; try rfl
    exact W.aret hx hb hr (Or.inl ⟨_, rfl⟩) (Or.inr ⟨_, rfl⟩) (fun t9 ht hW => ⟨⟨(), x, rfl, trivial, ⟨tx, fx, td, hw, by rw [ht]; exact hP, hD, by rw [ht]; exact ((ro_now hR0 hRA hS).sub [0] rfl), (hRp _ (List.mem_of_getElem? (i := 0) rfl))⟩⟩, hS.F ht⟩) hS.2.2 dX2_scaled_11
def R_powerOf (cw : Int32) (td : Int32) (tx : Int32) (fx : Int64) : Int32 × Int64 × Int32 :=
  if bI (R_isOf tx fx 4) = 0 then (if bI (R_nought tx fx) = 0 then (tup3 ((R_make cw td (if 0 ≤ (R_exp tx fx) then false else true) (((if 0 ≤ (R_exp tx fx) then (R_exp tx fx) else 0 - (R_exp tx fx))).toInt64) 0)) (fun vt_5 vf_6 otd_7 =>
        (vt_5, vf_6, otd_7)))
    else (tup2 ((R_infinite true)) (fun vt_10 vf_11 =>
        (vt_10, vf_11, td))))
  else (tup2 ((R_infinite false)) (fun vt_14 vf_15 =>
      (vt_14, vf_15, td)))
theorem kS_X2_powerOf : yX2_powerOf.cls ≠ "java/lang/invoke/MethodHandle" ∧ yX2_powerOf.cls ≠ "java/lang/invoke/VarHandle" ∧ (parseMethodDescriptor yX2_powerOf.desc).map (fun d => d.parameters.length) = some 1 := by decide +kernel
theorem kV_X2_powerOf : yX2_powerOf.cls = RX2 ∧ yX2_powerOf.cls ≠ "java/lang/invoke/MethodHandle" ∧ yX2_powerOf.cls ≠ "java/lang/invoke/VarHandle" ∧ (parseMethodDescriptor yX2_powerOf.desc).map (fun d => d.parameters.length) = some 1 := ⟨rfl, kS_X2_powerOf⟩
set_option maxHeartbeats 4000000 in
set_option maxRecDepth 100000 in
theorem c_X2_powerOf (l : Launch) (D : va_G) (ad : Nat → Nat) (h : Nat) (q1 : Nat) (q2 : Nat) (cA : ClassId) (cB : ClassId) (tf : Nat → Int32) (ff : Nat → Int64) (cw : Int32) (td : Int32) (an : Bool) (qb : Int32) (pa : Bool) (x : Nat) (tx : Int32) (fx : Int64) (sz : Nat) : Met l yX2_powerOf wsX2_powerOf ({ frames := 7, cells := 1, slots := 2, locals := 181 } : Room) (va_Pc [.ref h, .ref x] (MRB D ad h q1 q2 (tRS cA cB) (cRS h q1 q2 cA cB tf ff cw td an qb pa) [cReal x tx fx] sz)) (va_Qr (fun (_ : Unit) => True) (fun _ a t => ∃ (w_t : Int32) (w_f : Int64) (w_td : Int32), R_powerOf cw td tx fx = (w_t, w_f, w_td) ∧ va_P D vwCl (cRS h q1 q2 cA cB tf ff cw w_td an qb pa) t.heap ∧ va_D (va_A (cRS h q1 q2 cA cB tf ff cw td an qb pa) sz) (cRS h q1 q2 cA cB tf ff cw w_td an qb pa) ∧ va_P D vwCl [cReal a w_t w_f] t.heap ∧ ap3 a h q1 q2) (va_A (cRS h q1 q2 cA cB tf ff cw td an qb pa) sz)) 1 2 (va_A (cRS h q1 q2 cA cB tf ff cw td an qb pa) sz) := by
  refine Met.ofW (cc := cX2_powerOf) (maxL := 3) (ret := (some (.object "RealSteps$Real"))) (by decide) rfl ?_
  intro p e s m args below meth c s₁ B hml hv
  obtain ⟨rfl, hsz, hP, hK, hD0, hR0, hRp, hE⟩ := hv
  have hx := B.exec
  have hb := B.bytes
  have hr := B.returns
  have hts := atoms_spec (ws := wsX2_powerOf) B.pre
  have hown : s.vm.findClass RX2 = some m.cls := findClass_of_methodNamed B.named
  have hlocks := B.notSynchronized
  have w_1 := hts (.fieldLink RX2 106 "RealSteps$Kind" "INFINITE" "LRealSteps$Kind;") (by decide +kernel)
  have w_2 := hts (.initialized RX1) (by decide +kernel)
  have w_3 := hts (.instanceMethod yX1_isOf) (by decide +kernel)
  have w_4 := hts (.selects RX1 yX1_isOf yX1_isOf) (by decide +kernel)
  have w_5 := hts (.instanceMethod yX1_isNought) (by decide +kernel)
  have w_6 := hts (.selects RX1 yX1_isNought yX1_isNought) (by decide +kernel)
  have w_7 := hts (.instanceMethod yX1_exponent) (by decide +kernel)
  have w_8 := hts (.selects RX1 yX1_exponent yX1_exponent) (by decide +kernel)
  have w_9 := hts (.methodLink RX2 237 Lib.Math.abs.name) (by decide +kernel)
  have w_10 := hts (.static Lib.Math.abs.name) (by decide +kernel)
  have w_11 := hts (.initialized "java/lang/Math") (by decide +kernel)
  have w_12 := hts (.code Lib.Math.abs.name Lib.Math.abs.code 1 (some .int)) (by decide +kernel)
  subst hsz
  have hD := hD0.self (sz := s.heap.size)
  have hRA := rs_A hR0 hRp (e1 := .inr (1, [.ref q1, .ref q2, .int cw, .int td, .int (bI an), .int qb, .int (bI pa)])) (e2 := .inl (cA, 8, .inl tf)) (e3 := .inl (cB, 8, .inr (.inl ff)))
  generalize hAe : va_A (cRS h q1 q2 cA cB tf ff cw td an qb pa) s.heap.size = A at hD hE hRA ⊢
  have hA : ∀ q : Nat, s.heap.size ≤ q → A q := fun q h => by rw [← hAe]; exact Or.inr h
  have hS : va_S A s.heap s.heap [] := va_S.rf
  have hP : va_P D vwCl (cRS h q1 q2 cA cB tf ff cw td an qb pa) s.heap := hP
  have hl := lv_entry ([.ref h, .ref x]) (n := 3) (Nat.le_of_ble_eq_true rfl)
  rw [lg_entry_eq]
  generalize (lg_sl ([.ref h, .ref x]) ++ List.replicate (3 - (lg_sl ([.ref h, .ref x])).length) Slot.unset).toArray = ls at hl ⊢
  have hl : lv_has ls 3 [(0, .ref h), (1, .ref x)] := hl
  refine lv_aload_n hx hb dX2_powerOf_0 rfl (lv_at hl 1 rfl) ?_
  refine va_gets (v := .ref (ad 4)) hx hb (hE.1.1 4 (by decide)).1 hS hown w_1 (fun _ h9 => h9) dX2_powerOf_1 ?_
  refine vp_callSi (va_cr (va_runVN (As := [.ref (ad 4)]) (rest := []) ⟨hx, hb, hml, hown, hts⟩ (c_X1_isOf l D ad x tx fx 4 (by decide)) ⟨va_cnB 1 hts gX2_powerOf_X1_isOf_n112 rfl rfl rfl (hE.2.1 _ (List.mem_of_getElem? (i := 0) rfl)) w_2 kS_X1_isOf ⟨Nat.le_of_ble_eq_true rfl, Nat.le_of_ble_eq_true rfl⟩, w_3, w_4⟩ ⟨EB.blind, va_recv hK (ro_now hR0 hRA hS) (ci := 0) (q0 := 0) rfl rfl, EB.pre (hK.sub [] rfl) ((ro_now hR0 hRA hS).sub [0] rfl) hE hS⟩ rfl rfl hl.1 rfl (lv_room (Nat.le_of_ble_eq_true rfl)) dX2_powerOf_4 ⟨Nat.le_of_ble_eq_true rfl, Nat.le_of_ble_eq_true rfl⟩)) (fun r9 e9 => ?_)
  rw [e9]
  refine lv_if_eq (tgt := 15) hx hb dX2_powerOf_7 (by decide) (fun c_1 => ?_) (fun c_1 => ?_)
  · refine lv_aload_n hx hb dX2_powerOf_15 rfl (lv_at hl 1 rfl) ?_
    refine vp_callSi (va_cr (va_runVN (As := []) (rest := []) ⟨hx, hb, hml, hown, hts⟩ (c_X1_isNought l D ad x tx fx) ⟨va_cnB 0 hts gX2_powerOf_X1_isNought_n96 rfl rfl rfl (hE.2.1 _ (List.mem_of_getElem? (i := 8) rfl)) w_2 kS_X1_isNought ⟨Nat.le_of_ble_eq_true rfl, Nat.le_of_ble_eq_true rfl⟩, w_5, w_6⟩ ⟨EB.blind, va_recv hK (ro_now hR0 hRA hS) (ci := 0) (q0 := 0) rfl rfl, EB.pre (hK.sub [] rfl) ((ro_now hR0 hRA hS).sub [0] rfl) hE hS⟩ rfl rfl hl.1 rfl (lv_room (Nat.le_of_ble_eq_true rfl)) dX2_powerOf_16 ⟨Nat.le_of_ble_eq_true rfl, Nat.le_of_ble_eq_true rfl⟩)) (fun r9 e9 => ?_)
    rw [e9]
    refine lv_if_eq (tgt := 27) hx hb dX2_powerOf_19 (by decide) (fun c_2 => ?_) (fun c_2 => ?_)
    · refine lv_aload_n hx hb dX2_powerOf_27 rfl (lv_at hl 1 rfl) ?_
      refine vp_callSi (va_cr (va_runVN (As := []) (rest := []) ⟨hx, hb, hml, hown, hts⟩ (c_X1_exponent l D ad x tx fx) ⟨va_cnB 0 hts gX2_powerOf_X1_exponent_n219 rfl rfl rfl (hE.2.1 _ (List.mem_of_getElem? (i := 3) rfl)) w_2 kS_X1_exponent ⟨Nat.le_of_ble_eq_true rfl, Nat.le_of_ble_eq_true rfl⟩, w_7, w_8⟩ ⟨EB.blind, va_recv hK (ro_now hR0 hRA hS) (ci := 0) (q0 := 0) rfl rfl, EB.pre (hK.sub [] rfl) ((ro_now hR0 hRA hS).sub [0] rfl) hE hS⟩ rfl rfl hl.1 rfl (lv_room (Nat.le_of_ble_eq_true rfl)) dX2_powerOf_28 ⟨Nat.le_of_ble_eq_true rfl, Nat.le_of_ble_eq_true rfl⟩)) (fun r9 e9 => ?_)
      rw [e9]
      refine lv_istore_n (lv' := [(2, .int (R_exp tx fx)), (0, .ref h), (1, .ref x)]) hx hb dX2_powerOf_31 rfl hl (by decide) rfl (fun ls hl => ?_)
      refine lv_aload_n hx hb dX2_powerOf_32 rfl (lv_at hl 1 rfl) ?_
      refine lv_iload_n hx hb dX2_powerOf_33 rfl (lv_at hl 0 rfl) ?_
      refine q_cut (v := bI (if 0 ≤ (R_exp tx fx) then false else true)) (pcJ := 42) (rest := [.ref h]) (fun J => ?_) ?_
      · refine lv_if_ge (tgt := 41) hx hb dX2_powerOf_34 (by decide) (fun c_3 => ?_) (fun c_3 => ?_)
        · refine lv_iconst (v := 0) hx hb dX2_powerOf_41 (by decide) ?_
          exact J _ (by rw [if_pos c_3]; try rfl)
        · refine lv_iconst (v := 1) hx hb dX2_powerOf_37 (by decide) ?_
          refine lv_goto (tgt := 42) hx hb dX2_powerOf_38 (by decide) ?_
          exact J _ (by rw [if_neg c_3]; try rfl)
      refine lv_iload_n hx hb dX2_powerOf_42 rfl (lv_at hl 0 rfl) ?_
      refine va_mabs hx hb (hml.trans hl.1.symm) hown w_9 w_10 w_11 w_12 (Nat.le_of_ble_eq_true rfl) (Nat.le_of_ble_eq_true rfl) (Nat.le_of_ble_eq_true rfl) (Nat.le_of_ble_eq_true rfl) dX2_powerOf_43 ?_
      refine lv_i2l (v := ((if 0 ≤ (R_exp tx fx) then (R_exp tx fx) else 0 - (R_exp tx fx))).toInt64) hx hb dX2_powerOf_46 rfl ?_
      refine lv_iconst (v := 0) hx hb dX2_powerOf_47 (by decide) ?_
      have hFc := va_free (wc := cRS h q1 q2 cA cB tf ff cw td an qb pa) hD hS hA [0, 1, 2] rfl
      refine va_callr (va_runV (As := [.int (bI (if 0 ≤ (R_exp tx fx) then false else true)), .long (((if 0 ≤ (R_exp tx fx) then (R_exp tx fx) else 0 - (R_exp tx fx))).toInt64), .int 0]) (rest := []) ⟨hx, hb, hml, hown, hts⟩ (c_X2_make l D ad h q1 q2 cA cB tf ff cw td an qb pa (if 0 ≤ (R_exp tx fx) then false else true) (((if 0 ≤ (R_exp tx fx) then (R_exp tx fx) else 0 - (R_exp tx fx))).toInt64) 0 s.heap.size) (cwV 3 hts gX2_powerOf_X2_make rfl rfl rfl kV_X2_make ⟨Nat.le_of_ble_eq_true rfl, Nat.le_of_ble_eq_true rfl⟩) ⟨MRB.blind, va_recv hK hP (ci := 1) (q0 := 0) rfl rfl, MRB.pre hK hP hD vP_nil ap_nil hE hS hFc⟩ rfl rfl hl.1 rfl (lv_room (Nat.le_of_ble_eq_true rfl)) dX2_powerOf_48 ⟨Nat.le_of_ble_eq_true rfl, Nat.le_of_ble_eq_true rfl⟩) hS (fun q _ h9 => hFc q h9) hFc (fun u9 y_4 t9 H locs ht hvm hw hB hz1 hk1 hS => ?_)
      obtain ⟨vt_5, vf_6, otd_7, e_8, hP, hD9, hx_y_4, nx_y_4⟩ := hB
      rw [ht] at hP hx_y_4
      have hD : va_D A (cRS h q1 q2 cA cB tf ff cw otd_7 an qb pa) := hD9.weaken (fun _ _ _ h => hFc _ h)
      have hw : R_powerOf cw td tx fx = (vt_5, vf_6, otd_7) := by unfold R_powerOf; rw [if_pos c_1, if_pos c_2, tup3_e e_8]; try rfl
      exact W.aret hx hb hr (Or.inl ⟨_, rfl⟩) (Or.inr ⟨_, rfl⟩) (fun t9 ht hW => ⟨⟨(), y_4, rfl, trivial, ⟨vt_5, vf_6, otd_7, hw, by rw [ht]; exact hP, hD, by rw [ht]; exact hx_y_4, nx_y_4⟩⟩, hS.F ht⟩) hS.2.2 dX2_powerOf_51
    · refine lv_iconst (v := 1) hx hb dX2_powerOf_22 (by decide) ?_
      have hFc : ∀ q, va_A [] s.heap.size q → A q := va_free (wc := []) hD hS hA [] rfl
      refine va_callr (va_runS (As := [.int (bI true)]) (rest := []) ⟨hx, hb, hml, hown, hts⟩ (c_X2_infinite l D ad true s.heap.size) (va_cwS 1 hts gX2_powerOf_X2_infinite rfl rfl rfl kS_X2_infinite ⟨Nat.le_of_ble_eq_true rfl, Nat.le_of_ble_eq_true rfl⟩) ⟨SCB.blind, SCB.pre hK vP_nil hE hS hFc⟩ rfl rfl hl.1 rfl (lv_room (Nat.le_of_ble_eq_true rfl)) dX2_powerOf_23 ⟨Nat.le_of_ble_eq_true rfl, Nat.le_of_ble_eq_true rfl⟩) hS (fun q _ h9 => hFc q h9) hFc (fun u9 y_9 t9 H locs ht hvm hw hB hz1 hk1 hS => ?_)
      obtain ⟨vt_10, vf_11, e_12, hx_y_9, nz_y_9⟩ := hB
      rw [ht] at hx_y_9
      have nx_y_9 : ap3 y_9 h q1 q2 := ap_new hP nz_y_9
      have hP : va_P D vwCl (cRS h q1 q2 cA cB tf ff cw td an qb pa) H := ro_make hP hk1
      have hw : R_powerOf cw td tx fx = (vt_10, vf_11, td) := by unfold R_powerOf; rw [if_pos c_1, if_neg c_2, tup2_e e_12]; try rfl
      exact W.aret hx hb hr (Or.inl ⟨_, rfl⟩) (Or.inr ⟨_, rfl⟩) (fun t9 ht hW => ⟨⟨(), y_9, rfl, trivial, ⟨vt_10, vf_11, td, hw, by rw [ht]; exact hP, hD, by rw [ht]; exact hx_y_9, nx_y_9⟩⟩, hS.F ht⟩) hS.2.2 dX2_powerOf_26
  · refine lv_iconst (v := 0) hx hb dX2_powerOf_10 (by decide) ?_
    have hFc : ∀ q, va_A [] s.heap.size q → A q := va_free (wc := []) hD hS hA [] rfl
    refine va_callr (va_runS (As := [.int (bI false)]) (rest := []) ⟨hx, hb, hml, hown, hts⟩ (c_X2_infinite l D ad false s.heap.size) (va_cwS 1 hts gX2_powerOf_X2_infinite rfl rfl rfl kS_X2_infinite ⟨Nat.le_of_ble_eq_true rfl, Nat.le_of_ble_eq_true rfl⟩) ⟨SCB.blind, SCB.pre hK vP_nil hE hS hFc⟩ rfl rfl hl.1 rfl (lv_room (Nat.le_of_ble_eq_true rfl)) dX2_powerOf_11 ⟨Nat.le_of_ble_eq_true rfl, Nat.le_of_ble_eq_true rfl⟩) hS (fun q _ h9 => hFc q h9) hFc (fun u9 y_13 t9 H locs ht hvm hw hB hz1 hk1 hS => ?_)
    obtain ⟨vt_14, vf_15, e_16, hx_y_13, nz_y_13⟩ := hB
    rw [ht] at hx_y_13
    have nx_y_13 : ap3 y_13 h q1 q2 := ap_new hP nz_y_13
    have hP : va_P D vwCl (cRS h q1 q2 cA cB tf ff cw td an qb pa) H := ro_make hP hk1
    have hw : R_powerOf cw td tx fx = (vt_14, vf_15, td) := by unfold R_powerOf; rw [if_neg c_1, tup2_e e_16]; try rfl
    exact W.aret hx hb hr (Or.inl ⟨_, rfl⟩) (Or.inr ⟨_, rfl⟩) (fun t9 ht hW => ⟨⟨(), y_13, rfl, trivial, ⟨vt_14, vf_15, td, hw, by rw [ht]; exact hP, hD, by rw [ht]; exact hx_y_13, nx_y_13⟩⟩, hS.F ht⟩) hS.2.2 dX2_powerOf_14
def R_fractionOf (cw : Int32) (td : Int32) (tx : Int32) (fx : Int64) : Int32 × Int64 × Int32 :=
  if bI (R_isOf tx fx 4) = 0 then (tup3 ((R_make cw td (R_neg tx) (R_norm fx) (-63))) (fun vt_3 vf_4 otd_5 =>
      (vt_3, vf_4, otd_5)))
  else (tx, fx, td)
theorem kS_X2_fractionOf : yX2_fractionOf.cls ≠ "java/lang/invoke/MethodHandle" ∧ yX2_fractionOf.cls ≠ "java/lang/invoke/VarHandle" ∧ (parseMethodDescriptor yX2_fractionOf.desc).map (fun d => d.parameters.length) = some 1 := by decide +kernel
theorem kV_X2_fractionOf : yX2_fractionOf.cls = RX2 ∧ yX2_fractionOf.cls ≠ "java/lang/invoke/MethodHandle" ∧ yX2_fractionOf.cls ≠ "java/lang/invoke/VarHandle" ∧ (parseMethodDescriptor yX2_fractionOf.desc).map (fun d => d.parameters.length) = some 1 := ⟨rfl, kS_X2_fractionOf⟩
set_option maxHeartbeats 4000000 in
set_option maxRecDepth 100000 in
theorem c_X2_fractionOf (l : Launch) (D : va_G) (ad : Nat → Nat) (h : Nat) (q1 : Nat) (q2 : Nat) (cA : ClassId) (cB : ClassId) (tf : Nat → Int32) (ff : Nat → Int64) (cw : Int32) (td : Int32) (an : Bool) (qb : Int32) (pa : Bool) (x : Nat) (tx : Int32) (fx : Int64) (sz : Nat) : Met l yX2_fractionOf wsX2_fractionOf ({ frames := 7, cells := 1, slots := 2, locals := 181 } : Room) (va_Pc [.ref h, .ref x] (MRB D ad h q1 q2 (tRS cA cB) (cRS h q1 q2 cA cB tf ff cw td an qb pa) [cReal x tx fx] sz)) (va_Qr (fun (_ : Unit) => True) (fun _ a t => ∃ (w_t : Int32) (w_f : Int64) (w_td : Int32), R_fractionOf cw td tx fx = (w_t, w_f, w_td) ∧ va_P D vwCl (cRS h q1 q2 cA cB tf ff cw w_td an qb pa) t.heap ∧ va_D (va_A (cRS h q1 q2 cA cB tf ff cw td an qb pa) sz) (cRS h q1 q2 cA cB tf ff cw w_td an qb pa) ∧ va_P D vwCl [cReal a w_t w_f] t.heap ∧ ap3 a h q1 q2) (va_A (cRS h q1 q2 cA cB tf ff cw td an qb pa) sz)) 1 2 (va_A (cRS h q1 q2 cA cB tf ff cw td an qb pa) sz) := by
  refine Met.ofW (cc := cX2_fractionOf) (maxL := 2) (ret := (some (.object "RealSteps$Real"))) (by decide) rfl ?_
  intro p e s m args below meth c s₁ B hml hv
  obtain ⟨rfl, hsz, hP, hK, hD0, hR0, hRp, hE⟩ := hv
  have hx := B.exec
  have hb := B.bytes
  have hr := B.returns
  have hts := atoms_spec (ws := wsX2_fractionOf) B.pre
  have hown : s.vm.findClass RX2 = some m.cls := findClass_of_methodNamed B.named
  have hlocks := B.notSynchronized
  have w_1 := hts (.fieldLink RX2 106 "RealSteps$Kind" "INFINITE" "LRealSteps$Kind;") (by decide +kernel)
  have w_2 := hts (.initialized RX1) (by decide +kernel)
  have w_3 := hts (.instanceMethod yX1_isOf) (by decide +kernel)
  have w_4 := hts (.selects RX1 yX1_isOf yX1_isOf) (by decide +kernel)
  have w_5 := hts (.instanceMethod yX1_isNegative) (by decide +kernel)
  have w_6 := hts (.selects RX1 yX1_isNegative yX1_isNegative) (by decide +kernel)
  have w_7 := hts (.instanceMethod yX1_normalised) (by decide +kernel)
  have w_8 := hts (.selects RX1 yX1_normalised yX1_normalised) (by decide +kernel)
  subst hsz
  have hD := hD0.self (sz := s.heap.size)
  have hRA := rs_A hR0 hRp (e1 := .inr (1, [.ref q1, .ref q2, .int cw, .int td, .int (bI an), .int qb, .int (bI pa)])) (e2 := .inl (cA, 8, .inl tf)) (e3 := .inl (cB, 8, .inr (.inl ff)))
  generalize hAe : va_A (cRS h q1 q2 cA cB tf ff cw td an qb pa) s.heap.size = A at hD hE hRA ⊢
  have hA : ∀ q : Nat, s.heap.size ≤ q → A q := fun q h => by rw [← hAe]; exact Or.inr h
  have hS : va_S A s.heap s.heap [] := va_S.rf
  have hP : va_P D vwCl (cRS h q1 q2 cA cB tf ff cw td an qb pa) s.heap := hP
  have hl := lv_entry ([.ref h, .ref x]) (n := 2) (Nat.le_of_ble_eq_true rfl)
  rw [lg_entry_eq]
  generalize (lg_sl ([.ref h, .ref x]) ++ List.replicate (2 - (lg_sl ([.ref h, .ref x])).length) Slot.unset).toArray = ls at hl ⊢
  have hl : lv_has ls 2 [(0, .ref h), (1, .ref x)] := hl
  refine lv_aload_n hx hb dX2_fractionOf_0 rfl (lv_at hl 1 rfl) ?_
  refine va_gets (v := .ref (ad 4)) hx hb (hE.1.1 4 (by decide)).1 hS hown w_1 (fun _ h9 => h9) dX2_fractionOf_1 ?_
  refine vp_callSi (va_cr (va_runVN (As := [.ref (ad 4)]) (rest := []) ⟨hx, hb, hml, hown, hts⟩ (c_X1_isOf l D ad x tx fx 4 (by decide)) ⟨va_cnB 1 hts gX2_fractionOf_X1_isOf_n112 rfl rfl rfl (hE.2.1 _ (List.mem_of_getElem? (i := 0) rfl)) w_2 kS_X1_isOf ⟨Nat.le_of_ble_eq_true rfl, Nat.le_of_ble_eq_true rfl⟩, w_3, w_4⟩ ⟨EB.blind, va_recv hK (ro_now hR0 hRA hS) (ci := 0) (q0 := 0) rfl rfl, EB.pre (hK.sub [] rfl) ((ro_now hR0 hRA hS).sub [0] rfl) hE hS⟩ rfl rfl hl.1 rfl (lv_room (Nat.le_of_ble_eq_true rfl)) dX2_fractionOf_4 ⟨Nat.le_of_ble_eq_true rfl, Nat.le_of_ble_eq_true rfl⟩)) (fun r9 e9 => ?_)
  rw [e9]
  refine lv_if_eq (tgt := 12) hx hb dX2_fractionOf_7 (by decide) (fun c_1 => ?_) (fun c_1 => ?_)
  · refine lv_aload_n hx hb dX2_fractionOf_12 rfl (lv_at hl 0 rfl) ?_
    refine lv_aload_n hx hb dX2_fractionOf_13 rfl (lv_at hl 1 rfl) ?_
    refine vp_callSi (va_cr (va_runVN (As := []) (rest := [.ref h]) ⟨hx, hb, hml, hown, hts⟩ (c_X1_isNegative l D ad x tx fx) ⟨va_cnB 0 hts gX2_fractionOf_X1_isNegative_n137 rfl rfl rfl (hE.2.1 _ (List.mem_of_getElem? (i := 2) rfl)) w_2 kS_X1_isNegative ⟨Nat.le_of_ble_eq_true rfl, Nat.le_of_ble_eq_true rfl⟩, w_5, w_6⟩ ⟨EB.blind, va_recv hK (ro_now hR0 hRA hS) (ci := 0) (q0 := 0) rfl rfl, EB.pre (hK.sub [] rfl) ((ro_now hR0 hRA hS).sub [0] rfl) hE hS⟩ rfl rfl hl.1 rfl (lv_room (Nat.le_of_ble_eq_true rfl)) dX2_fractionOf_14 ⟨Nat.le_of_ble_eq_true rfl, Nat.le_of_ble_eq_true rfl⟩)) (fun r9 e9 => ?_)
    rw [e9]
    refine lv_aload_n hx hb dX2_fractionOf_17 rfl (lv_at hl 1 rfl) ?_
    refine vp_callSl (va_cr (va_runVN (As := []) (rest := [.int (bI (R_neg tx)), .ref h]) ⟨hx, hb, hml, hown, hts⟩ (c_X1_normalised l D ad x tx fx) ⟨va_cnB 0 hts gX2_fractionOf_X1_normalised_n229 rfl rfl rfl (hE.2.1 _ (List.mem_of_getElem? (i := 5) rfl)) w_2 kS_X1_normalised ⟨Nat.le_of_ble_eq_true rfl, Nat.le_of_ble_eq_true rfl⟩, w_7, w_8⟩ ⟨EB.blind, va_recv hK (ro_now hR0 hRA hS) (ci := 0) (q0 := 0) rfl rfl, EB.pre (hK.sub [] rfl) ((ro_now hR0 hRA hS).sub [0] rfl) hE hS⟩ rfl rfl hl.1 rfl (lv_room (Nat.le_of_ble_eq_true rfl)) dX2_fractionOf_18 ⟨Nat.le_of_ble_eq_true rfl, Nat.le_of_ble_eq_true rfl⟩)) (fun r9 e9 => ?_)
    rw [e9]
    refine lv_bipush (v := (-63)) hx hb dX2_fractionOf_21 (by decide) ?_
    have hFc := va_free (wc := cRS h q1 q2 cA cB tf ff cw td an qb pa) hD hS hA [0, 1, 2] rfl
    refine va_callr (va_runV (As := [.int (bI (R_neg tx)), .long (R_norm fx), .int (-63)]) (rest := []) ⟨hx, hb, hml, hown, hts⟩ (c_X2_make l D ad h q1 q2 cA cB tf ff cw td an qb pa (R_neg tx) (R_norm fx) (-63) s.heap.size) (cwV 3 hts gX2_fractionOf_X2_make rfl rfl rfl kV_X2_make ⟨Nat.le_of_ble_eq_true rfl, Nat.le_of_ble_eq_true rfl⟩) ⟨MRB.blind, va_recv hK hP (ci := 1) (q0 := 0) rfl rfl, MRB.pre hK hP hD vP_nil ap_nil hE hS hFc⟩ rfl rfl hl.1 rfl (lv_room (Nat.le_of_ble_eq_true rfl)) dX2_fractionOf_23 ⟨Nat.le_of_ble_eq_true rfl, Nat.le_of_ble_eq_true rfl⟩) hS (fun q _ h9 => hFc q h9) hFc (fun u9 y_2 t9 H locs ht hvm hw hB hz1 hk1 hS => ?_)
    obtain ⟨vt_3, vf_4, otd_5, e_6, hP, hD9, hx_y_2, nx_y_2⟩ := hB
    rw [ht] at hP hx_y_2
    have hD : va_D A (cRS h q1 q2 cA cB tf ff cw otd_5 an qb pa) := hD9.weaken (fun _ _ _ h => hFc _ h)
    have hw : R_fractionOf cw td tx fx = (vt_3, vf_4, otd_5) := by unfold R_fractionOf; rw [if_pos c_1, tup3_e e_6]; try rfl
    exact W.aret hx hb hr (Or.inl ⟨_, rfl⟩) (Or.inr ⟨_, rfl⟩) (fun t9 ht hW => ⟨⟨(), y_2, rfl, trivial, ⟨vt_3, vf_4, otd_5, hw, by rw [ht]; exact hP, hD, by rw [ht]; exact hx_y_2, nx_y_2⟩⟩, hS.F ht⟩) hS.2.2 dX2_fractionOf_26
  · refine lv_aload_n hx hb dX2_fractionOf_10 rfl (lv_at hl 1 rfl) ?_
    refine W.widen (k := 1) (n := 2) (Nat.le_of_ble_eq_true rfl) (Nat.le_of_ble_eq_true rfl) ?_
    have hw : R_fractionOf cw td tx fx = (tx, fx, td) := by unfold R_fractionOf; rw [if_neg c_1]; try rfl
    exact W.aret hx hb hr (Or.inl ⟨_, rfl⟩) (Or.inr ⟨_, rfl⟩) (fun t9 ht hW => ⟨⟨(), x, rfl, trivial, ⟨tx, fx, td, hw, by rw [ht]; exact hP, hD, by rw [ht]; exact ((ro_now hR0 hRA hS).sub [0] rfl), (hRp _ (List.mem_of_getElem? (i := 0) rfl))⟩⟩, hS.F ht⟩) hS.2.2 dX2_fractionOf_11
def R_order (cw : Int32) (tx : Int32) (fx : Int64) (ty : Int32) (fy : Int64) : Int32 × Int32 × Bool :=
  tup3 ((R_goesOn cw tx fx ty fy (if bI (if (cw &&& 4096) = 0 then true else false) = 0 then false else (if bI (R_isOf tx fx 4) = bI (R_isOf ty fy 4) then false else true)) false)) (fun v_4 otd_5 oan_6 =>
    if bI v_4 = 0 then ((if bI oan_6 = 0 then (3 : Int32) else (2 : Int32)), otd_5, oan_6)
    else if bI (if (cw &&& 4096) = 0 then true else false) = 0 then (if (R_side tx fx) = (R_side ty fy) then (((R_side tx fx) * (R_sizes tx fx ty fy)), otd_5, oan_6)
      else ((if (R_side ty fy) ≤ (R_side tx fx) then (1 : Int32) else (-1 : Int32)), otd_5, oan_6))
    else if bI (R_isOf tx fx 4) = 0 then (if (R_side tx fx) = (R_side ty fy) then (((R_side tx fx) * (R_sizes tx fx ty fy)), otd_5, oan_6)
      else ((if (R_side ty fy) ≤ (R_side tx fx) then (1 : Int32) else (-1 : Int32)), otd_5, oan_6))
    else (0, otd_5, oan_6))
theorem kS_X2_order : yX2_order.cls ≠ "java/lang/invoke/MethodHandle" ∧ yX2_order.cls ≠ "java/lang/invoke/VarHandle" ∧ (parseMethodDescriptor yX2_order.desc).map (fun d => d.parameters.length) = some 2 := by decide +kernel
theorem kV_X2_order : yX2_order.cls = RX2 ∧ yX2_order.cls ≠ "java/lang/invoke/MethodHandle" ∧ yX2_order.cls ≠ "java/lang/invoke/VarHandle" ∧ (parseMethodDescriptor yX2_order.desc).map (fun d => d.parameters.length) = some 2 := ⟨rfl, kS_X2_order⟩
set_option maxHeartbeats 4000000 in
set_option maxRecDepth 100000 in
theorem c_X2_order (l : Launch) (D : va_G) (ad : Nat → Nat) (h : Nat) (q1 : Nat) (q2 : Nat) (cA : ClassId) (cB : ClassId) (tf : Nat → Int32) (ff : Nat → Int64) (cw : Int32) (td : Int32) (an : Bool) (qb : Int32) (pa : Bool) (x : Nat) (tx : Int32) (fx : Int64) (y : Nat) (ty : Int32) (fy : Int64) (sz : Nat) : Met l yX2_order wsX2_order ({ frames := 4, cells := 0, slots := 0, locals := 86 } : Room) (va_Pc [.ref h, .ref x, .ref y] (MRB D ad h q1 q2 (tRS cA cB) (cRS h q1 q2 cA cB tf ff cw td an qb pa) [cReal x tx fx, cReal y ty fy] sz)) (va_Qi (fun (r u : Int32) => r = u) (fun u t => ∃ (w_td : Int32) (w_an : Bool), R_order cw tx fx ty fy = (u, w_td, w_an) ∧ va_P D vwCl (cRS h q1 q2 cA cB tf ff cw w_td w_an qb pa) t.heap ∧ va_D (va_A (cRS h q1 q2 cA cB tf ff cw td an qb pa) sz) (cRS h q1 q2 cA cB tf ff cw w_td w_an qb pa)) (va_A (cRS h q1 q2 cA cB tf ff cw td an qb pa) sz)) 0 0 (va_A (cRS h q1 q2 cA cB tf ff cw td an qb pa) sz) := by
  refine Met.ofW (cc := cX2_order) (maxL := 7) (ret := (some .int)) (by decide) rfl ?_
  intro p e s m args below meth c s₁ B hml hv
  obtain ⟨rfl, hsz, hP, hK, hD0, hR0, hRp, hE⟩ := hv
  have hx := B.exec
  have hb := B.bytes
  have hr := B.returns
  have hts := atoms_spec (ws := wsX2_order) B.pre
  have hown : s.vm.findClass RX2 = some m.cls := findClass_of_methodNamed B.named
  have hlocks := B.notSynchronized
  have w_1 := hts (.fieldLink RX2 17 "RealSteps" "controlWord" "I") (by decide +kernel)
  have in_X2 : ∀ w ∈ wsX20, w ∈ wsX2_order := by decide +kernel
  have w_3 := hts (.fieldLink RX2 106 "RealSteps$Kind" "INFINITE" "LRealSteps$Kind;") (by decide +kernel)
  have w_4 := hts (.initialized RX1) (by decide +kernel)
  have w_5 := hts (.instanceMethod yX1_isOf) (by decide +kernel)
  have w_6 := hts (.selects RX1 yX1_isOf yX1_isOf) (by decide +kernel)
  have w_7 := hts (.instanceMethod yX1_side) (by decide +kernel)
  have w_8 := hts (.selects RX1 yX1_side yX1_side) (by decide +kernel)
  have w_9 := hts (.fieldLink RX2 24 "RealSteps" "answered" "Z") (by decide +kernel)
  subst hsz
  have hD := hD0.self (sz := s.heap.size)
  have hRA := rs_A hR0 hRp (e1 := .inr (1, [.ref q1, .ref q2, .int cw, .int td, .int (bI an), .int qb, .int (bI pa)])) (e2 := .inl (cA, 8, .inl tf)) (e3 := .inl (cB, 8, .inr (.inl ff)))
  generalize hAe : va_A (cRS h q1 q2 cA cB tf ff cw td an qb pa) s.heap.size = A at hD hE hRA ⊢
  have hA : ∀ q : Nat, s.heap.size ≤ q → A q := fun q h => by rw [← hAe]; exact Or.inr h
  have hS : va_S A s.heap s.heap [] := va_S.rf
  have hP : va_P D vwCl (cRS h q1 q2 cA cB tf ff cw td an qb pa) s.heap := hP
  have hl := lv_entry ([.ref h, .ref x, .ref y]) (n := 7) (Nat.le_of_ble_eq_true rfl)
  rw [lg_entry_eq]
  generalize (lg_sl ([.ref h, .ref x, .ref y]) ++ List.replicate (7 - (lg_sl ([.ref h, .ref x, .ref y])).length) Slot.unset).toArray = ls at hl ⊢
  have hl : lv_has ls 7 [(0, .ref h), (1, .ref x), (2, .ref y)] := hl
  refine lv_aload_n hx hb dX2_order_0 rfl (lv_at hl 0 rfl) ?_
  refine va_get (v := .int cw) (C := RX2) (T := TX2) (N := 7) hx hb hts in_X2 hown hK hP 0 rfl rfl 2 (by decide) w_1 (fun _ h9 => h9) rfl dX2_order_1 ?_
  refine lv_sipush (v := 4096) hx hb dX2_order_4 (by decide) ?_
  refine lv_iand hx hb dX2_order_7 ?_
  refine q_cut (v := bI (if (cw &&& 4096) = 0 then true else false)) (pcJ := 16) (rest := []) (fun J => ?_) ?_
  · refine lv_if_ne (tgt := 15) hx hb dX2_order_8 (by decide) (fun c_1 => ?_) (fun c_1 => ?_)
    · refine lv_iconst (v := 0) hx hb dX2_order_15 (by decide) ?_
      exact J _ (by rw [if_neg c_1]; try rfl)
    · refine lv_iconst (v := 1) hx hb dX2_order_11 (by decide) ?_
      refine lv_goto (tgt := 16) hx hb dX2_order_12 (by decide) ?_
      exact J _ (by rw [if_pos c_1]; try rfl)
  refine lv_istore_n (lv' := [(3, .int (bI (if (cw &&& 4096) = 0 then true else false))), (0, .ref h), (1, .ref x), (2, .ref y)]) hx hb dX2_order_16 rfl hl (by decide) rfl (fun ls hl => ?_)
  refine lv_aload_n hx hb dX2_order_17 rfl (lv_at hl 2 rfl) ?_
  refine va_gets (v := .ref (ad 4)) hx hb (hE.1.1 4 (by decide)).1 hS hown w_3 (fun _ h9 => h9) dX2_order_18 ?_
  refine vp_callSi (va_cr (va_runVN (As := [.ref (ad 4)]) (rest := []) ⟨hx, hb, hml, hown, hts⟩ (c_X1_isOf l D ad x tx fx 4 (by decide)) ⟨va_cnB 1 hts gX2_order_X1_isOf_n112 rfl rfl rfl (hE.2.1 _ (List.mem_of_getElem? (i := 0) rfl)) w_4 kS_X1_isOf ⟨Nat.le_of_ble_eq_true rfl, Nat.le_of_ble_eq_true rfl⟩, w_5, w_6⟩ ⟨EB.blind, va_recv hK (ro_now hR0 hRA hS) (ci := 0) (q0 := 0) rfl rfl, EB.pre (hK.sub [] rfl) ((ro_now hR0 hRA hS).sub [0] rfl) hE hS⟩ rfl rfl hl.1 rfl (lv_room (Nat.le_of_ble_eq_true rfl)) dX2_order_21 ⟨Nat.le_of_ble_eq_true rfl, Nat.le_of_ble_eq_true rfl⟩)) (fun r9 e9 => ?_)
  rw [e9]
  refine lv_istore (lv' := [(4, .int (bI (R_isOf tx fx 4))), (3, .int (bI (if (cw &&& 4096) = 0 then true else false))), (0, .ref h), (1, .ref x), (2, .ref y)]) hx hb dX2_order_24 hl (by decide) rfl (fun ls hl => ?_)
  refine lv_iload_n hx hb dX2_order_26 rfl (lv_at hl 1 rfl) ?_
  refine q_cut (v := bI (if bI (if (cw &&& 4096) = 0 then true else false) = 0 then false else (if bI (R_isOf tx fx 4) = bI (R_isOf ty fy 4) then false else true))) (pcJ := 47) (rest := []) (fun J => ?_) ?_
  · refine lv_if_eq (tgt := 46) hx hb dX2_order_27 (by decide) (fun c_2 => ?_) (fun c_2 => ?_)
    · refine lv_iconst (v := 0) hx hb dX2_order_46 (by decide) ?_
      exact J _ (by rw [if_pos c_2]; try rfl)
    · refine lv_iload hx hb dX2_order_30 (lv_at hl 0 rfl) ?_
      refine lv_aload_n hx hb dX2_order_32 rfl (lv_at hl 4 rfl) ?_
      refine va_gets (v := .ref (ad 4)) hx hb (hE.1.1 4 (by decide)).1 hS hown w_3 (fun _ h9 => h9) dX2_order_33 ?_
      refine vp_callSi (va_cr (va_runVN (As := [.ref (ad 4)]) (rest := [.int (bI (R_isOf tx fx 4))]) ⟨hx, hb, hml, hown, hts⟩ (c_X1_isOf l D ad y ty fy 4 (by decide)) ⟨va_cnB 1 hts gX2_order_X1_isOf_n112 rfl rfl rfl (hE.2.1 _ (List.mem_of_getElem? (i := 0) rfl)) w_4 kS_X1_isOf ⟨Nat.le_of_ble_eq_true rfl, Nat.le_of_ble_eq_true rfl⟩, w_5, w_6⟩ ⟨EB.blind, va_recv hK (ro_now hR0 hRA hS) (ci := 0) (q0 := 1) rfl rfl, EB.pre (hK.sub [] rfl) ((ro_now hR0 hRA hS).sub [1] rfl) hE hS⟩ rfl rfl hl.1 rfl (lv_room (Nat.le_of_ble_eq_true rfl)) dX2_order_36 ⟨Nat.le_of_ble_eq_true rfl, Nat.le_of_ble_eq_true rfl⟩)) (fun r9 e9 => ?_)
      rw [e9]
      refine lv_icmp_eq (tgt := 46) hx hb dX2_order_39 (by decide) (fun c_3 => ?_) (fun c_3 => ?_)
      · refine lv_iconst (v := 0) hx hb dX2_order_46 (by decide) ?_
        exact J _ (by rw [if_neg c_2, if_pos c_3]; try rfl)
      · refine lv_iconst (v := 1) hx hb dX2_order_42 (by decide) ?_
        refine lv_goto (tgt := 47) hx hb dX2_order_43 (by decide) ?_
        exact J _ (by rw [if_neg c_2, if_neg c_3]; try rfl)
  refine lv_istore (lv' := [(5, .int (bI (if bI (if (cw &&& 4096) = 0 then true else false) = 0 then false else (if bI (R_isOf tx fx 4) = bI (R_isOf ty fy 4) then false else true)))), (4, .int (bI (R_isOf tx fx 4))), (3, .int (bI (if (cw &&& 4096) = 0 then true else false))), (0, .ref h), (1, .ref x), (2, .ref y)]) hx hb dX2_order_47 hl (by decide) rfl (fun ls hl => ?_)
  refine lv_aload_n hx hb dX2_order_49 rfl (lv_at hl 3 rfl) ?_
  refine lv_aload_n hx hb dX2_order_50 rfl (lv_at hl 4 rfl) ?_
  refine lv_aload_n hx hb dX2_order_51 rfl (lv_at hl 5 rfl) ?_
  refine lv_iload hx hb dX2_order_52 (lv_at hl 0 rfl) ?_
  refine lv_iconst (v := 0) hx hb dX2_order_54 (by decide) ?_
  have hFc := va_free (wc := cRS h q1 q2 cA cB tf ff cw td an qb pa) hD hS hA [0, 1, 2] rfl
  refine va_calli (va_runV (As := [.ref x, .ref y, .int (bI (if bI (if (cw &&& 4096) = 0 then true else false) = 0 then false else (if bI (R_isOf tx fx 4) = bI (R_isOf ty fy 4) then false else true))), .int (bI false)]) (rest := []) ⟨hx, hb, hml, hown, hts⟩ (c_X2_goesOn l D ad h q1 q2 cA cB tf ff cw td an qb pa x tx fx y ty fy (if bI (if (cw &&& 4096) = 0 then true else false) = 0 then false else (if bI (R_isOf tx fx 4) = bI (R_isOf ty fy 4) then false else true)) false s.heap.size) (cwV 4 hts gX2_order_X2_goesOn rfl rfl rfl kV_X2_goesOn ⟨Nat.le_of_ble_eq_true rfl, Nat.le_of_ble_eq_true rfl⟩) ⟨MRB.blind, va_recv hK hP (ci := 1) (q0 := 0) rfl rfl, MRB.pre hK hP hD (vP_one ((ro_now hR0 hRA hS).sub [0] rfl) (vP_one ((ro_now hR0 hRA hS).sub [1] rfl) vP_nil)) (ap_one (hRp _ (List.mem_of_getElem? (i := 0) rfl)) (ap_one (hRp _ (List.mem_of_getElem? (i := 1) rfl)) ap_nil)) hE hS hFc⟩ rfl rfl hl.1 rfl (lv_room (Nat.le_of_ble_eq_true rfl)) dX2_order_55 ⟨Nat.le_of_ble_eq_true rfl, Nat.le_of_ble_eq_true rfl⟩) hS (fun q _ h9 => hFc q h9) hFc (fun r9 v_4 t9 H locs ht hvm hw hB hz1 hk1 hS => ?_)
  obtain rfl := hw
  obtain ⟨otd_5, oan_6, e_7, hP, hD9⟩ := hB
  rw [ht] at hP
  have hD : va_D A (cRS h q1 q2 cA cB tf ff cw otd_5 oan_6 qb pa) := hD9.weaken (fun _ _ _ h => hFc _ h)
  refine lv_if_ne (tgt := 74) hx hb dX2_order_58 (by decide) (fun c_8 => ?_) (fun c_8 => ?_)
  · refine lv_iload_n hx hb dX2_order_74 rfl (lv_at hl 2 rfl) ?_
    refine lv_if_eq (tgt := 85) hx hb dX2_order_75 (by decide) (fun c_9 => ?_) (fun c_9 => ?_)
    · refine lv_aload_n hx hb dX2_order_85 rfl (lv_at hl 4 rfl) ?_
      refine vp_callSi (va_cr (va_runVN (As := []) (rest := []) ⟨hx, hb, hml, hown, hts⟩ (c_X1_side l D ad x tx fx) ⟨va_cnB 0 hts gX2_order_X1_side_n247 rfl rfl rfl (hE.2.1 _ (List.mem_of_getElem? (i := 6) rfl)) w_4 kS_X1_side ⟨Nat.le_of_ble_eq_true rfl, Nat.le_of_ble_eq_true rfl⟩, w_7, w_8⟩ ⟨EB.blind, va_recv hK (ro_now hR0 hRA hS) (ci := 0) (q0 := 0) rfl rfl, EB.pre (hK.sub [] rfl) ((ro_now hR0 hRA hS).sub [0] rfl) hE hS⟩ rfl rfl hl.1 rfl (lv_room (Nat.le_of_ble_eq_true rfl)) dX2_order_86 ⟨Nat.le_of_ble_eq_true rfl, Nat.le_of_ble_eq_true rfl⟩)) (fun r9 e9 => ?_)
      rw [e9]
      refine lv_istore (lv' := [(6, .int (R_side tx fx)), (5, .int (bI (if bI (if (cw &&& 4096) = 0 then true else false) = 0 then false else (if bI (R_isOf tx fx 4) = bI (R_isOf ty fy 4) then false else true)))), (4, .int (bI (R_isOf tx fx 4))), (3, .int (bI (if (cw &&& 4096) = 0 then true else false))), (0, .ref h), (1, .ref x), (2, .ref y)]) hx hb dX2_order_89 hl (by decide) rfl (fun ls hl => ?_)
      refine lv_iload hx hb dX2_order_91 (lv_at hl 0 rfl) ?_
      refine lv_aload_n hx hb dX2_order_93 rfl (lv_at hl 6 rfl) ?_
      refine vp_callSi (va_cr (va_runVN (As := []) (rest := [.int (R_side tx fx)]) ⟨hx, hb, hml, hown, hts⟩ (c_X1_side l D ad y ty fy) ⟨va_cnB 0 hts gX2_order_X1_side_n247 rfl rfl rfl (hE.2.1 _ (List.mem_of_getElem? (i := 6) rfl)) w_4 kS_X1_side ⟨Nat.le_of_ble_eq_true rfl, Nat.le_of_ble_eq_true rfl⟩, w_7, w_8⟩ ⟨EB.blind, va_recv hK (ro_now hR0 hRA hS) (ci := 0) (q0 := 1) rfl rfl, EB.pre (hK.sub [] rfl) ((ro_now hR0 hRA hS).sub [1] rfl) hE hS⟩ rfl rfl hl.1 rfl (lv_room (Nat.le_of_ble_eq_true rfl)) dX2_order_94 ⟨Nat.le_of_ble_eq_true rfl, Nat.le_of_ble_eq_true rfl⟩)) (fun r9 e9 => ?_)
      rw [e9]
      refine lv_icmp_eq (tgt := 115) hx hb dX2_order_97 (by decide) (fun c_10 => ?_) (fun c_10 => ?_)
      · refine lv_iload hx hb dX2_order_115 (lv_at hl 0 rfl) ?_
        refine lv_aload_n hx hb dX2_order_117 rfl (lv_at hl 5 rfl) ?_
        refine lv_aload_n hx hb dX2_order_118 rfl (lv_at hl 6 rfl) ?_
        refine vp_callSi (va_cr (va_runS (As := [.ref x, .ref y]) (rest := [.int (R_side tx fx)]) ⟨hx, hb, hml, hown, hts⟩ (c_X2_orderOfSizes l D ad x tx fx y ty fy) (va_cwS 2 hts gX2_order_X2_orderOfSizes rfl rfl rfl kS_X2_orderOfSizes ⟨Nat.le_of_ble_eq_true rfl, Nat.le_of_ble_eq_true rfl⟩) ⟨EB.blind, EB.pre (hK.sub [] rfl) (vP_one ((ro_now hR0 hRA hS).sub [0] rfl) (vP_one ((ro_now hR0 hRA hS).sub [1] rfl) vP_nil)) hE hS⟩ rfl rfl hl.1 rfl (lv_room (Nat.le_of_ble_eq_true rfl)) dX2_order_119 ⟨Nat.le_of_ble_eq_true rfl, Nat.le_of_ble_eq_true rfl⟩)) (fun r9 e9 => ?_)
        rw [e9]
        refine lv_imul hx hb dX2_order_122 ?_
        have hw : R_order cw tx fx ty fy = (((R_side tx fx) * (R_sizes tx fx ty fy)), otd_5, oan_6) := by unfold R_order; rw [tup3_e e_7, if_neg c_8, if_pos c_9, if_pos c_10]; try rfl
        exact W.iret hx hb hr (fun t9 ht hW => ⟨⟨_, ((R_side tx fx) * (R_sizes tx fx ty fy)), rfl, rfl, ⟨otd_5, oan_6, hw, by rw [ht]; exact hP, hD⟩⟩, hS.F ht⟩) hS.2.2 dX2_order_123
      · refine lv_iload hx hb dX2_order_100 (lv_at hl 0 rfl) ?_
        refine lv_aload_n hx hb dX2_order_102 rfl (lv_at hl 6 rfl) ?_
        refine vp_callSi (va_cr (va_runVN (As := []) (rest := [.int (R_side tx fx)]) ⟨hx, hb, hml, hown, hts⟩ (c_X1_side l D ad y ty fy) ⟨va_cnB 0 hts gX2_order_X1_side_n247 rfl rfl rfl (hE.2.1 _ (List.mem_of_getElem? (i := 6) rfl)) w_4 kS_X1_side ⟨Nat.le_of_ble_eq_true rfl, Nat.le_of_ble_eq_true rfl⟩, w_7, w_8⟩ ⟨EB.blind, va_recv hK (ro_now hR0 hRA hS) (ci := 0) (q0 := 1) rfl rfl, EB.pre (hK.sub [] rfl) ((ro_now hR0 hRA hS).sub [1] rfl) hE hS⟩ rfl rfl hl.1 rfl (lv_room (Nat.le_of_ble_eq_true rfl)) dX2_order_103 ⟨Nat.le_of_ble_eq_true rfl, Nat.le_of_ble_eq_true rfl⟩)) (fun r9 e9 => ?_)
        rw [e9]
        refine q_cut (v := (if (R_side ty fy) ≤ (R_side tx fx) then (1 : Int32) else (-1 : Int32))) (pcJ := 114) (rest := []) (fun J => ?_) ?_
        · refine lv_icmp_ge (tgt := 113) hx hb dX2_order_106 (by decide) (fun c_11 => ?_) (fun c_11 => ?_)
          · refine lv_iconst (v := 1) hx hb dX2_order_113 (by decide) ?_
            exact J _ (by rw [if_pos c_11]; try rfl)
          · refine lv_iconst (v := (-1)) hx hb dX2_order_109 (by decide) ?_
            refine lv_goto (tgt := 114) hx hb dX2_order_110 (by decide) ?_
            exact J _ (by rw [if_neg c_11]; try rfl)
        have hw : R_order cw tx fx ty fy = ((if (R_side ty fy) ≤ (R_side tx fx) then (1 : Int32) else (-1 : Int32)), otd_5, oan_6) := by unfold R_order; rw [tup3_e e_7, if_neg c_8, if_pos c_9, if_neg c_10]; try rfl
        exact W.iret hx hb hr (fun t9 ht hW => ⟨⟨_, (if (R_side ty fy) ≤ (R_side tx fx) then (1 : Int32) else (-1 : Int32)), rfl, rfl, ⟨otd_5, oan_6, hw, by rw [ht]; exact hP, hD⟩⟩, hS.F ht⟩) hS.2.2 dX2_order_114
    · refine lv_iload hx hb dX2_order_78 (lv_at hl 1 rfl) ?_
      refine lv_if_eq (tgt := 85) hx hb dX2_order_80 (by decide) (fun c_12 => ?_) (fun c_12 => ?_)
      · refine lv_aload_n hx hb dX2_order_85 rfl (lv_at hl 4 rfl) ?_
        refine vp_callSi (va_cr (va_runVN (As := []) (rest := []) ⟨hx, hb, hml, hown, hts⟩ (c_X1_side l D ad x tx fx) ⟨va_cnB 0 hts gX2_order_X1_side_n247 rfl rfl rfl (hE.2.1 _ (List.mem_of_getElem? (i := 6) rfl)) w_4 kS_X1_side ⟨Nat.le_of_ble_eq_true rfl, Nat.le_of_ble_eq_true rfl⟩, w_7, w_8⟩ ⟨EB.blind, va_recv hK (ro_now hR0 hRA hS) (ci := 0) (q0 := 0) rfl rfl, EB.pre (hK.sub [] rfl) ((ro_now hR0 hRA hS).sub [0] rfl) hE hS⟩ rfl rfl hl.1 rfl (lv_room (Nat.le_of_ble_eq_true rfl)) dX2_order_86 ⟨Nat.le_of_ble_eq_true rfl, Nat.le_of_ble_eq_true rfl⟩)) (fun r9 e9 => ?_)
        rw [e9]
        refine lv_istore (lv' := [(6, .int (R_side tx fx)), (5, .int (bI (if bI (if (cw &&& 4096) = 0 then true else false) = 0 then false else (if bI (R_isOf tx fx 4) = bI (R_isOf ty fy 4) then false else true)))), (4, .int (bI (R_isOf tx fx 4))), (3, .int (bI (if (cw &&& 4096) = 0 then true else false))), (0, .ref h), (1, .ref x), (2, .ref y)]) hx hb dX2_order_89 hl (by decide) rfl (fun ls hl => ?_)
        refine lv_iload hx hb dX2_order_91 (lv_at hl 0 rfl) ?_
        refine lv_aload_n hx hb dX2_order_93 rfl (lv_at hl 6 rfl) ?_
        refine vp_callSi (va_cr (va_runVN (As := []) (rest := [.int (R_side tx fx)]) ⟨hx, hb, hml, hown, hts⟩ (c_X1_side l D ad y ty fy) ⟨va_cnB 0 hts gX2_order_X1_side_n247 rfl rfl rfl (hE.2.1 _ (List.mem_of_getElem? (i := 6) rfl)) w_4 kS_X1_side ⟨Nat.le_of_ble_eq_true rfl, Nat.le_of_ble_eq_true rfl⟩, w_7, w_8⟩ ⟨EB.blind, va_recv hK (ro_now hR0 hRA hS) (ci := 0) (q0 := 1) rfl rfl, EB.pre (hK.sub [] rfl) ((ro_now hR0 hRA hS).sub [1] rfl) hE hS⟩ rfl rfl hl.1 rfl (lv_room (Nat.le_of_ble_eq_true rfl)) dX2_order_94 ⟨Nat.le_of_ble_eq_true rfl, Nat.le_of_ble_eq_true rfl⟩)) (fun r9 e9 => ?_)
        rw [e9]
        refine lv_icmp_eq (tgt := 115) hx hb dX2_order_97 (by decide) (fun c_13 => ?_) (fun c_13 => ?_)
        · refine lv_iload hx hb dX2_order_115 (lv_at hl 0 rfl) ?_
          refine lv_aload_n hx hb dX2_order_117 rfl (lv_at hl 5 rfl) ?_
          refine lv_aload_n hx hb dX2_order_118 rfl (lv_at hl 6 rfl) ?_
          refine vp_callSi (va_cr (va_runS (As := [.ref x, .ref y]) (rest := [.int (R_side tx fx)]) ⟨hx, hb, hml, hown, hts⟩ (c_X2_orderOfSizes l D ad x tx fx y ty fy) (va_cwS 2 hts gX2_order_X2_orderOfSizes rfl rfl rfl kS_X2_orderOfSizes ⟨Nat.le_of_ble_eq_true rfl, Nat.le_of_ble_eq_true rfl⟩) ⟨EB.blind, EB.pre (hK.sub [] rfl) (vP_one ((ro_now hR0 hRA hS).sub [0] rfl) (vP_one ((ro_now hR0 hRA hS).sub [1] rfl) vP_nil)) hE hS⟩ rfl rfl hl.1 rfl (lv_room (Nat.le_of_ble_eq_true rfl)) dX2_order_119 ⟨Nat.le_of_ble_eq_true rfl, Nat.le_of_ble_eq_true rfl⟩)) (fun r9 e9 => ?_)
          rw [e9]
          refine lv_imul hx hb dX2_order_122 ?_
          have hw : R_order cw tx fx ty fy = (((R_side tx fx) * (R_sizes tx fx ty fy)), otd_5, oan_6) := by unfold R_order; rw [tup3_e e_7, if_neg c_8, if_neg c_9, if_pos c_12, if_pos c_13]; try rfl
          exact W.iret hx hb hr (fun t9 ht hW => ⟨⟨_, ((R_side tx fx) * (R_sizes tx fx ty fy)), rfl, rfl, ⟨otd_5, oan_6, hw, by rw [ht]; exact hP, hD⟩⟩, hS.F ht⟩) hS.2.2 dX2_order_123
        · refine lv_iload hx hb dX2_order_100 (lv_at hl 0 rfl) ?_
          refine lv_aload_n hx hb dX2_order_102 rfl (lv_at hl 6 rfl) ?_
          refine vp_callSi (va_cr (va_runVN (As := []) (rest := [.int (R_side tx fx)]) ⟨hx, hb, hml, hown, hts⟩ (c_X1_side l D ad y ty fy) ⟨va_cnB 0 hts gX2_order_X1_side_n247 rfl rfl rfl (hE.2.1 _ (List.mem_of_getElem? (i := 6) rfl)) w_4 kS_X1_side ⟨Nat.le_of_ble_eq_true rfl, Nat.le_of_ble_eq_true rfl⟩, w_7, w_8⟩ ⟨EB.blind, va_recv hK (ro_now hR0 hRA hS) (ci := 0) (q0 := 1) rfl rfl, EB.pre (hK.sub [] rfl) ((ro_now hR0 hRA hS).sub [1] rfl) hE hS⟩ rfl rfl hl.1 rfl (lv_room (Nat.le_of_ble_eq_true rfl)) dX2_order_103 ⟨Nat.le_of_ble_eq_true rfl, Nat.le_of_ble_eq_true rfl⟩)) (fun r9 e9 => ?_)
          rw [e9]
          refine q_cut (v := (if (R_side ty fy) ≤ (R_side tx fx) then (1 : Int32) else (-1 : Int32))) (pcJ := 114) (rest := []) (fun J => ?_) ?_
          · refine lv_icmp_ge (tgt := 113) hx hb dX2_order_106 (by decide) (fun c_14 => ?_) (fun c_14 => ?_)
            · refine lv_iconst (v := 1) hx hb dX2_order_113 (by decide) ?_
              exact J _ (by rw [if_pos c_14]; try rfl)
            · refine lv_iconst (v := (-1)) hx hb dX2_order_109 (by decide) ?_
              refine lv_goto (tgt := 114) hx hb dX2_order_110 (by decide) ?_
              exact J _ (by rw [if_neg c_14]; try rfl)
          have hw : R_order cw tx fx ty fy = ((if (R_side ty fy) ≤ (R_side tx fx) then (1 : Int32) else (-1 : Int32)), otd_5, oan_6) := by unfold R_order; rw [tup3_e e_7, if_neg c_8, if_neg c_9, if_pos c_12, if_neg c_13]; try rfl
          exact W.iret hx hb hr (fun t9 ht hW => ⟨⟨_, (if (R_side ty fy) ≤ (R_side tx fx) then (1 : Int32) else (-1 : Int32)), rfl, rfl, ⟨otd_5, oan_6, hw, by rw [ht]; exact hP, hD⟩⟩, hS.F ht⟩) hS.2.2 dX2_order_114
      · refine lv_iconst (v := 0) hx hb dX2_order_83 (by decide) ?_
        have hw : R_order cw tx fx ty fy = (0, otd_5, oan_6) := by unfold R_order; rw [tup3_e e_7, if_neg c_8, if_neg c_9, if_neg c_12]; try rfl
        exact W.iret hx hb hr (fun t9 ht hW => ⟨⟨_, 0, rfl, rfl, ⟨otd_5, oan_6, hw, by rw [ht]; exact hP, hD⟩⟩, hS.F ht⟩) hS.2.2 dX2_order_84
  · refine lv_aload_n hx hb dX2_order_61 rfl (lv_at hl 3 rfl) ?_
    refine va_get (v := .int (bI oan_6)) (C := RX2) (T := TX2) (N := 7) hx hb hts in_X2 hown hK hP 0 rfl rfl 4 (by decide) w_9 (fun _ h9 => h9) rfl dX2_order_62 ?_
    refine q_cut (v := (if bI oan_6 = 0 then (3 : Int32) else (2 : Int32))) (pcJ := 73) (rest := []) (fun J => ?_) ?_
    · refine lv_if_eq (tgt := 72) hx hb dX2_order_65 (by decide) (fun c_15 => ?_) (fun c_15 => ?_)
      · refine lv_iconst (v := 3) hx hb dX2_order_72 (by decide) ?_
        exact J _ (by rw [if_pos c_15]; try rfl)
      · refine lv_iconst (v := 2) hx hb dX2_order_68 (by decide) ?_
        refine lv_goto (tgt := 73) hx hb dX2_order_69 (by decide) ?_
        exact J _ (by rw [if_neg c_15]; try rfl)
    have hw : R_order cw tx fx ty fy = ((if bI oan_6 = 0 then (3 : Int32) else (2 : Int32)), otd_5, oan_6) := by unfold R_order; rw [tup3_e e_7, if_pos c_8]; try rfl
    exact W.iret hx hb hr (fun t9 ht hW => ⟨⟨_, (if bI oan_6 = 0 then (3 : Int32) else (2 : Int32)), rfl, rfl, ⟨otd_5, oan_6, hw, by rw [ht]; exact hP, hD⟩⟩, hS.F ht⟩) hS.2.2 dX2_order_73
