def R_whole (tf : Nat → Int32) (ff : Nat → Int64) (cw : Int32) (td : Int32) (an : Bool) (ra : Int32) (rc : Int32) : Int32 × Int32 × (Nat → Int32) × (Nat → Int64) × Int32 × Bool :=
  if R_need ra = true then (if R_need rc = true then (tup2 ((R_read (tf ra.toNatClampNeg) (ff ra.toNatClampNeg))) (fun vt_4 vf_5 =>
        tup3 ((R_goesOn cw vt_4 vf_5 vt_4 vf_5 false false)) (fun v_7 otd_8 oan_9 =>
          if bI v_7 = 0 then (if bI oan_9 = 0 then (otd_8, 0, tf, ff, otd_8, oan_9)
            else (tup2 ((R_subst vt_4 vf_5 vt_4 vf_5)) (fun vt_14 vf_15 =>
                tup2 ((R_write tf ff rc vt_14 vf_15)) (fun otf_17 off_18 =>
                  (otd_8, 0, otf_17, off_18, otd_8, oan_9)))))
          else (tup3 ((R_wholeOf cw otd_8 vt_4 vf_5)) (fun vt_21 vf_22 otd_23 =>
              tup2 ((R_write tf ff rc vt_21 vf_22)) (fun otf_25 off_26 =>
                (otd_23, 0, otf_25, off_26, otd_23, oan_9)))))))
    else (0, 1, tf, ff, td, an))
  else (0, 1, tf, ff, td, an)
theorem kS_X2_whole : yX2_whole.cls ≠ "java/lang/invoke/MethodHandle" ∧ yX2_whole.cls ≠ "java/lang/invoke/VarHandle" ∧ (parseMethodDescriptor yX2_whole.desc).map (fun d => d.parameters.length) = some 2 := by decide +kernel
theorem kV_X2_whole : yX2_whole.cls = RX2 ∧ yX2_whole.cls ≠ "java/lang/invoke/MethodHandle" ∧ yX2_whole.cls ≠ "java/lang/invoke/VarHandle" ∧ (parseMethodDescriptor yX2_whole.desc).map (fun d => d.parameters.length) = some 2 := ⟨rfl, kS_X2_whole⟩
set_option maxHeartbeats 4000000 in
set_option maxRecDepth 100000 in
theorem c_X2_whole (l : Launch) (hl9 : l.stackTraces = false) (D : va_G) (ad : Nat → Nat) (h : Nat) (q1 : Nat) (q2 : Nat) (cA : ClassId) (cB : ClassId) (tf : Nat → Int32) (ff : Nat → Int64) (cw : Int32) (td : Int32) (an : Bool) (qb : Int32) (pa : Bool) (ra : Int32) (rc : Int32) (sz : Nat) : vx_Met l yX2_whole wsX2_whole ({ frames := 8, cells := 4, slots := 16, locals := 206 } : Room) (va_Pc [.ref h, .int ra, .int rc] (TXB (MRB D ad h q1 q2 (tRS cA cB) (cRS h q1 q2 cA cB tf ff cw td an qb pa) [] sz))) (va_Qi (fun (r u : Int32) => r = u) (fun u t => ∃ (w_tf : Nat → Int32) (w_ff : Nat → Int64) (w_td : Int32) (w_an : Bool), R_whole tf ff cw td an ra rc = (u, 0, w_tf, w_ff, w_td, w_an) ∧ va_P D vwCl (cRS h q1 q2 cA cB w_tf w_ff cw w_td w_an qb pa) t.heap ∧ va_D (va_A (cRS h q1 q2 cA cB tf ff cw td an qb pa) sz) (cRS h q1 q2 cA cB w_tf w_ff cw w_td w_an qb pa)) (va_A (cRS h q1 q2 cA cB tf ff cw td an qb pa) sz)) (vx_X (fun _ : Unit => True) (fun E _ t => ∃ k : Int32, R_whole tf ff cw td an ra rc = (0, k, tf, ff, td, an) ∧ (E = xIOB ∧ k = 1) ∧ va_P D vwCl (cRS h q1 q2 cA cB tf ff cw td an qb pa) t.heap) (va_A (cRS h q1 q2 cA cB tf ff cw td an qb pa) sz)) 4 16 (va_A (cRS h q1 q2 cA cB tf ff cw td an qb pa) sz) := by
  refine vx_ofW (cc := cX2_whole) (maxL := 4) (ret := (some .int)) (by decide) rfl ?_
  intro p e s m args below meth c s₁ B hml htb hv
  obtain ⟨rfl, ⟨hsz, hP, hK, hD0, hR0, hRp, hE⟩, hDW⟩ := hv
  have hx := B.exec
  have hb := B.bytes
  have hr := B.returns
  have hts := atoms_spec (ws := wsX2_whole) B.pre
  have hown : s.vm.findClass RX2 = some m.cls := findClass_of_methodNamed B.named
  have hlocks := B.notSynchronized
  have w_1 := hts (.fieldLink RX2 24 "RealSteps" "answered" "Z") (by decide +kernel)
  have in_X2 : ∀ w ∈ wsX20, w ∈ wsX2_whole := by decide +kernel
  have w_3 := hts (.fieldLink RX2 21 "RealSteps" "toldBits" "I") (by decide +kernel)
  subst hsz
  have hD := hD0.self (sz := s.heap.size)
  have hRA := rs_A hR0 hRp (e1 := .inr (1, [.ref q1, .ref q2, .int cw, .int td, .int (bI an), .int qb, .int (bI pa)])) (e2 := .inl (cA, 8, .inl tf)) (e3 := .inl (cB, 8, .inr (.inl ff)))
  generalize hAe : va_A (cRS h q1 q2 cA cB tf ff cw td an qb pa) s.heap.size = A at hD hE hRA ⊢
  have hA : ∀ q : Nat, s.heap.size ≤ q → A q := fun q h => by rw [← hAe]; exact Or.inr h
  have hS : va_S A s.heap s.heap [] := va_S.rf
  have hP : va_P D vwCl (cRS h q1 q2 cA cB tf ff cw td an qb pa) s.heap := hP
  have hl := lv_entry ([.ref h, .int ra, .int rc]) (n := 4) (Nat.le_of_ble_eq_true rfl)
  rw [lg_entry_eq]
  generalize (lg_sl ([.ref h, .int ra, .int rc]) ++ List.replicate (4 - (lg_sl ([.ref h, .int ra, .int rc])).length) Slot.unset).toArray = ls at hl ⊢
  have hl : lv_has ls 4 [(0, .ref h), (1, .int ra), (2, .int rc)] := hl
  refine lv_iload_n hx hb dX2_whole_0 rfl (lv_at hl 1 rfl) ?_
  have hFc : ∀ q, va_A [] s.heap.size q → A q := va_free (wc := []) hD hS hA [] rfl
  refine vx_callv (vx_runS (As := [.int ra]) (rest := []) ⟨hx, hb, hml, hown, hts⟩ (c_X2_needRegister l hl9 D ad ra s.heap.size) (va_cwS 1 hts gX2_whole_X2_needRegister rfl rfl rfl kS_X2_needRegister ⟨Nat.le_of_ble_eq_true rfl, Nat.le_of_ble_eq_true rfl⟩) ⟨TXB.blind SCB.blind, TXB.pre (SCB.pre hK vP_nil hE hS hFc) hDW⟩ rfl rfl hl.1 rfl (lv_room (Nat.le_of_ble_eq_true rfl)) dX2_whole_1 ⟨Nat.le_of_ble_eq_true rfl, Nat.le_of_ble_eq_true rfl⟩) hS (fun q _ h9 => hFc q h9) hFc (fun q _ h9 => hFc q h9) (fun E9 ce9 q9 u9 t9 H9 locs9 ht hvm c_1 hB hz1 hk1 hS9 hce9 hcv9 hcl9 => ?_) (fun u9 t9 H locs ht hvm c_1 hB hz1 hk1 hS => ?_)
  · have hw : R_whole tf ff cw td an ra rc = (0, 1, tf, ff, td, an) := by unfold R_whole; rw [if_neg c_1]; try rfl
    exact vx_out (fun x h => (htb x h).elim) hlocks hce9 hcv9 hcl9 (fun t9 ht ha => ⟨(), trivial, ⟨1, hw, ⟨hB, rfl⟩, by rw [ht]; exact ro_make hP hk1⟩, hS9.F ht⟩) hS9.2.2 (Nat.le_of_ble_eq_true rfl) (Nat.le_of_ble_eq_true rfl)
  · have hP : va_P D vwCl (cRS h q1 q2 cA cB tf ff cw td an qb pa) H := ro_make hP hk1
    refine lv_iload_n hx hb dX2_whole_4 rfl (lv_at hl 2 rfl) ?_
    have hFc : ∀ q, va_A [] H.size q → A q := va_free (wc := []) hD hS hA [] rfl
    refine vx_callv (vx_runS (As := [.int rc]) (rest := []) ⟨hx, hb, hml, hown, hts⟩ (c_X2_needRegister l hl9 D ad rc H.size) (va_cwS 1 hts gX2_whole_X2_needRegister rfl rfl rfl kS_X2_needRegister ⟨Nat.le_of_ble_eq_true rfl, Nat.le_of_ble_eq_true rfl⟩) ⟨TXB.blind SCB.blind, TXB.pre (SCB.pre hK vP_nil hE hS hFc) hDW⟩ rfl rfl hl.1 rfl (lv_room (Nat.le_of_ble_eq_true rfl)) dX2_whole_5 ⟨Nat.le_of_ble_eq_true rfl, Nat.le_of_ble_eq_true rfl⟩) hS (fun q _ h9 => hFc q h9) hFc (fun q _ h9 => hFc q h9) (fun E9 ce9 q9 u9 t9 H9 locs9 ht hvm c_2 hB hz1 hk1 hS9 hce9 hcv9 hcl9 => ?_) (fun u9 t9 H locs ht hvm c_2 hB hz1 hk1 hS => ?_)
    · have hw : R_whole tf ff cw td an ra rc = (0, 1, tf, ff, td, an) := by unfold R_whole; rw [if_pos c_1, if_neg c_2]; try rfl
      exact vx_out (fun x h => (htb x h).elim) hlocks hce9 hcv9 hcl9 (fun t9 ht ha => ⟨(), trivial, ⟨1, hw, ⟨hB, rfl⟩, by rw [ht]; exact ro_make hP hk1⟩, hS9.F ht⟩) hS9.2.2 (Nat.le_of_ble_eq_true rfl) (Nat.le_of_ble_eq_true rfl)
    · have hP : va_P D vwCl (cRS h q1 q2 cA cB tf ff cw td an qb pa) H := ro_make hP hk1
      refine lv_aload_n hx hb dX2_whole_8 rfl (lv_at hl 0 rfl) ?_
      refine lv_iload_n hx hb dX2_whole_9 rfl (lv_at hl 1 rfl) ?_
      have hFc := va_free (wc := cRS h q1 q2 cA cB tf ff cw td an qb pa) hD hS hA [0, 1, 2] rfl
      refine va_callr (va_runV (As := [.int ra]) (rest := []) ⟨hx, hb, hml, hown, hts⟩ (c_X2_read l D ad h q1 q2 cA cB tf ff cw td an qb pa ra H.size (R_need_in c_1)) (cwV 1 hts gX2_whole_X2_read rfl rfl rfl kV_X2_read ⟨Nat.le_of_ble_eq_true rfl, Nat.le_of_ble_eq_true rfl⟩) ⟨MRB.blind, va_recv hK hP (ci := 1) (q0 := 0) rfl rfl, MRB.pre hK hP hD vP_nil ap_nil hE hS hFc⟩ rfl rfl hl.1 rfl (lv_room (Nat.le_of_ble_eq_true rfl)) dX2_whole_10 ⟨Nat.le_of_ble_eq_true rfl, Nat.le_of_ble_eq_true rfl⟩) hS (fun q _ h9 => hFc q h9) hFc (fun u9 y_3 t9 H locs ht hvm hw hB hz1 hk1 hS => ?_)
      obtain ⟨vt_4, vf_5, e_6, hP, hD9, hx_y_3, nx_y_3⟩ := hB
      rw [ht] at hP hx_y_3
      have hD : va_D A (cRS h q1 q2 cA cB tf ff cw td an qb pa) := hD9.weaken (fun _ _ _ h => hFc _ h)
      refine lv_astore_n (lv' := [(3, .ref y_3), (0, .ref h), (1, .int ra), (2, .int rc)]) hx hb dX2_whole_13 rfl hl (by decide) rfl (fun ls hl => ?_)
      refine lv_aload_n hx hb dX2_whole_14 rfl (lv_at hl 1 rfl) ?_
      refine lv_aload_n hx hb dX2_whole_15 rfl (lv_at hl 0 rfl) ?_
      refine lv_aload_n hx hb dX2_whole_16 rfl (lv_at hl 0 rfl) ?_
      refine lv_iconst (v := 0) hx hb dX2_whole_17 (by decide) ?_
      refine lv_iconst (v := 0) hx hb dX2_whole_18 (by decide) ?_
      have hFc := va_free (wc := cRS h q1 q2 cA cB tf ff cw td an qb pa) hD hS hA [0, 1, 2] rfl
      refine va_calli (va_runV (As := [.ref y_3, .ref y_3, .int (bI false), .int (bI false)]) (rest := []) ⟨hx, hb, hml, hown, hts⟩ (c_X2_goesOn l D ad h q1 q2 cA cB tf ff cw td an qb pa y_3 vt_4 vf_5 y_3 vt_4 vf_5 false false H.size) (cwV 4 hts gX2_whole_X2_goesOn rfl rfl rfl kV_X2_goesOn ⟨Nat.le_of_ble_eq_true rfl, Nat.le_of_ble_eq_true rfl⟩) ⟨MRB.blind, va_recv hK hP (ci := 1) (q0 := 0) rfl rfl, MRB.pre hK hP hD (vP_one hx_y_3 (vP_one hx_y_3 vP_nil)) (ap_one nx_y_3 (ap_one nx_y_3 ap_nil)) hE hS hFc⟩ rfl rfl hl.1 rfl (lv_room (Nat.le_of_ble_eq_true rfl)) dX2_whole_19 ⟨Nat.le_of_ble_eq_true rfl, Nat.le_of_ble_eq_true rfl⟩) hS (fun q _ h9 => hFc q h9) hFc (fun r9 v_7 t9 H locs ht hvm hw hB hz1 hk1 hS => ?_)
      obtain rfl := hw
      obtain ⟨otd_8, oan_9, e_10, hP, hD9⟩ := hB
      rw [ht] at hP
      have hD : va_D A (cRS h q1 q2 cA cB tf ff cw otd_8 oan_9 qb pa) := hD9.weaken (fun _ _ _ h => hFc _ h)
      have hx_y_3 := ro_keep hx_y_3 nx_y_3 hk1
      refine lv_if_eq (tgt := 38) hx hb dX2_whole_22 (by decide) (fun c_11 => ?_) (fun c_11 => ?_)
      · refine lv_aload_n hx hb dX2_whole_38 rfl (lv_at hl 1 rfl) ?_
        refine va_get (v := .int (bI oan_9)) (C := RX2) (T := TX2) (N := 7) hx hb hts in_X2 hown hK hP 0 rfl rfl 4 (by decide) w_1 (fun _ h9 => h9) rfl dX2_whole_39 ?_
        refine lv_if_eq (tgt := 55) hx hb dX2_whole_42 (by decide) (fun c_12 => ?_) (fun c_12 => ?_)
        · refine lv_aload_n hx hb dX2_whole_55 rfl (lv_at hl 1 rfl) ?_
          refine va_get (v := .int otd_8) (C := RX2) (T := TX2) (N := 7) hx hb hts in_X2 hown hK hP 0 rfl rfl 3 (by decide) w_3 (fun _ h9 => h9) rfl dX2_whole_56 ?_
          refine W.widen (k := 4) (n := 16) (Nat.le_of_ble_eq_true rfl) (Nat.le_of_ble_eq_true rfl) ?_
          have hw : R_whole tf ff cw td an ra rc = (otd_8, 0, tf, ff, otd_8, oan_9) := by unfold R_whole; rw [if_pos c_1, if_pos c_2, tup2_e e_6, tup3_e e_10, if_pos c_11, if_pos c_12]; try rfl
          exact vx_ret (W.iret hx hb hr (fun t9 ht hW => ⟨⟨_, otd_8, rfl, rfl, ⟨tf, ff, otd_8, oan_9, hw, by rw [ht]; exact hP, hD⟩⟩, hS.F ht⟩) hS.2.2 dX2_whole_59)
        · refine lv_aload_n hx hb dX2_whole_45 rfl (lv_at hl 1 rfl) ?_
          refine lv_iload_n hx hb dX2_whole_46 rfl (lv_at hl 3 rfl) ?_
          refine lv_aload_n hx hb dX2_whole_47 rfl (lv_at hl 0 rfl) ?_
          refine lv_aload_n hx hb dX2_whole_48 rfl (lv_at hl 0 rfl) ?_
          have hFc : ∀ q, va_A [] H.size q → A q := va_free (wc := []) hD hS hA [] rfl
          refine va_callr (va_runS (As := [.ref y_3, .ref y_3]) (rest := [.int rc, .ref h]) ⟨hx, hb, hml, hown, hts⟩ (c_X2_substitute l D ad y_3 vt_4 vf_5 y_3 vt_4 vf_5 H.size) (va_cwS 2 hts gX2_whole_X2_substitute rfl rfl rfl kS_X2_substitute ⟨Nat.le_of_ble_eq_true rfl, Nat.le_of_ble_eq_true rfl⟩) ⟨SCB.blind, SCB.pre hK (vP_one hx_y_3 (vP_one hx_y_3 vP_nil)) hE hS hFc⟩ rfl rfl hl.1 rfl (lv_room (Nat.le_of_ble_eq_true rfl)) dX2_whole_49 ⟨Nat.le_of_ble_eq_true rfl, Nat.le_of_ble_eq_true rfl⟩) hS (fun q _ h9 => hFc q h9) hFc (fun u9 y_13 t9 H locs ht hvm hw hB hz1 hk1 hS => ?_)
          obtain ⟨vt_14, vf_15, e_16, hx_y_13, nz_y_13⟩ := hB
          rw [ht] at hx_y_13
          have nx_y_13 : ap3 y_13 h q1 q2 := by
            rcases nz_y_13 with z | z | z
            · rw [z]; exact nx_y_3
            · rw [z]; exact nx_y_3
            · exact ap_new hP z
          have hP : va_P D vwCl (cRS h q1 q2 cA cB tf ff cw otd_8 oan_9 qb pa) H := ro_make hP hk1
          have hx_y_3 := ro_make hx_y_3 hk1
          have hFc := va_free (wc := cRS h q1 q2 cA cB tf ff cw otd_8 oan_9 qb pa) hD hS hA [0, 1, 2] rfl
          refine va_callv (va_runV (As := [.int rc, .ref y_13]) (rest := []) ⟨hx, hb, hml, hown, hts⟩ (c_X2_write l D ad h q1 q2 cA cB tf ff cw otd_8 oan_9 qb pa y_13 vt_14 vf_15 rc H.size (R_need_in c_2)) (cwV 2 hts gX2_whole_X2_write rfl rfl rfl kV_X2_write ⟨Nat.le_of_ble_eq_true rfl, Nat.le_of_ble_eq_true rfl⟩) ⟨MRB.blind, va_recv hK hP (ci := 1) (q0 := 0) rfl rfl, MRB.pre hK hP hD (vP_one hx_y_13 vP_nil) (ap_one nx_y_13 ap_nil) hE hS hFc⟩ rfl rfl hl.1 rfl (lv_room (Nat.le_of_ble_eq_true rfl)) dX2_whole_52 ⟨Nat.le_of_ble_eq_true rfl, Nat.le_of_ble_eq_true rfl⟩) hS (fun q _ h9 => hFc q h9) hFc (fun u9 t9 H locs ht hvm hw hB hz1 hk1 hS => ?_)
          obtain ⟨otf_17, off_18, e_19, hP, hD9⟩ := hB
          rw [ht] at hP
          have hD : va_D A (cRS h q1 q2 cA cB otf_17 off_18 cw otd_8 oan_9 qb pa) := hD9.weaken (fun _ _ _ h => hFc _ h)
          have hx_y_3 := ro_keep hx_y_3 nx_y_3 hk1
          have hx_y_13 := ro_keep hx_y_13 nx_y_13 hk1
          refine lv_aload_n hx hb dX2_whole_55 rfl (lv_at hl 1 rfl) ?_
          refine va_get (v := .int otd_8) (C := RX2) (T := TX2) (N := 7) hx hb hts in_X2 hown hK hP 0 rfl rfl 3 (by decide) w_3 (fun _ h9 => h9) rfl dX2_whole_56 ?_
          have hw : R_whole tf ff cw td an ra rc = (otd_8, 0, otf_17, off_18, otd_8, oan_9) := by unfold R_whole; rw [if_pos c_1, if_pos c_2, tup2_e e_6, tup3_e e_10, if_pos c_11, if_neg c_12, tup2_e e_16, tup2_e e_19]; try rfl
          exact vx_ret (W.iret hx hb hr (fun t9 ht hW => ⟨⟨_, otd_8, rfl, rfl, ⟨otf_17, off_18, otd_8, oan_9, hw, by rw [ht]; exact hP, hD⟩⟩, hS.F ht⟩) hS.2.2 dX2_whole_59)
      · refine lv_aload_n hx hb dX2_whole_25 rfl (lv_at hl 1 rfl) ?_
        refine lv_iload_n hx hb dX2_whole_26 rfl (lv_at hl 3 rfl) ?_
        refine lv_aload_n hx hb dX2_whole_27 rfl (lv_at hl 1 rfl) ?_
        refine lv_aload_n hx hb dX2_whole_28 rfl (lv_at hl 0 rfl) ?_
        have hFc := va_free (wc := cRS h q1 q2 cA cB tf ff cw otd_8 oan_9 qb pa) hD hS hA [0, 1, 2] rfl
        refine va_callr (va_runV (As := [.ref y_3]) (rest := [.int rc, .ref h]) ⟨hx, hb, hml, hown, hts⟩ (c_X2_wholeOf l D ad h q1 q2 cA cB tf ff cw otd_8 oan_9 qb pa y_3 vt_4 vf_5 H.size) (cwV 1 hts gX2_whole_X2_wholeOf rfl rfl rfl kV_X2_wholeOf ⟨Nat.le_of_ble_eq_true rfl, Nat.le_of_ble_eq_true rfl⟩) ⟨MRB.blind, va_recv hK hP (ci := 1) (q0 := 0) rfl rfl, MRB.pre hK hP hD (vP_one hx_y_3 vP_nil) (ap_one nx_y_3 ap_nil) hE hS hFc⟩ rfl rfl hl.1 rfl (lv_room (Nat.le_of_ble_eq_true rfl)) dX2_whole_29 ⟨Nat.le_of_ble_eq_true rfl, Nat.le_of_ble_eq_true rfl⟩) hS (fun q _ h9 => hFc q h9) hFc (fun u9 y_20 t9 H locs ht hvm hw hB hz1 hk1 hS => ?_)
        obtain ⟨vt_21, vf_22, otd_23, e_24, hP, hD9, hx_y_20, nx_y_20⟩ := hB
        rw [ht] at hP hx_y_20
        have hD : va_D A (cRS h q1 q2 cA cB tf ff cw otd_23 oan_9 qb pa) := hD9.weaken (fun _ _ _ h => hFc _ h)
        have hx_y_3 := ro_keep hx_y_3 nx_y_3 hk1
        have hFc := va_free (wc := cRS h q1 q2 cA cB tf ff cw otd_23 oan_9 qb pa) hD hS hA [0, 1, 2] rfl
        refine va_callv (va_runV (As := [.int rc, .ref y_20]) (rest := []) ⟨hx, hb, hml, hown, hts⟩ (c_X2_write l D ad h q1 q2 cA cB tf ff cw otd_23 oan_9 qb pa y_20 vt_21 vf_22 rc H.size (R_need_in c_2)) (cwV 2 hts gX2_whole_X2_write rfl rfl rfl kV_X2_write ⟨Nat.le_of_ble_eq_true rfl, Nat.le_of_ble_eq_true rfl⟩) ⟨MRB.blind, va_recv hK hP (ci := 1) (q0 := 0) rfl rfl, MRB.pre hK hP hD (vP_one hx_y_20 vP_nil) (ap_one nx_y_20 ap_nil) hE hS hFc⟩ rfl rfl hl.1 rfl (lv_room (Nat.le_of_ble_eq_true rfl)) dX2_whole_32 ⟨Nat.le_of_ble_eq_true rfl, Nat.le_of_ble_eq_true rfl⟩) hS (fun q _ h9 => hFc q h9) hFc (fun u9 t9 H locs ht hvm hw hB hz1 hk1 hS => ?_)
        obtain ⟨otf_25, off_26, e_27, hP, hD9⟩ := hB
        rw [ht] at hP
        have hD : va_D A (cRS h q1 q2 cA cB otf_25 off_26 cw otd_23 oan_9 qb pa) := hD9.weaken (fun _ _ _ h => hFc _ h)
        have hx_y_3 := ro_keep hx_y_3 nx_y_3 hk1
        have hx_y_20 := ro_keep hx_y_20 nx_y_20 hk1
        refine lv_goto (tgt := 55) hx hb dX2_whole_35 (by decide) ?_
        refine lv_aload_n hx hb dX2_whole_55 rfl (lv_at hl 1 rfl) ?_
        refine va_get (v := .int otd_23) (C := RX2) (T := TX2) (N := 7) hx hb hts in_X2 hown hK hP 0 rfl rfl 3 (by decide) w_3 (fun _ h9 => h9) rfl dX2_whole_56 ?_
        have hw : R_whole tf ff cw td an ra rc = (otd_23, 0, otf_25, off_26, otd_23, oan_9) := by unfold R_whole; rw [if_pos c_1, if_pos c_2, tup2_e e_6, tup3_e e_10, if_neg c_11, tup3_e e_24, tup2_e e_27]; try rfl
        exact vx_ret (W.iret hx hb hr (fun t9 ht hW => ⟨⟨_, otd_23, rfl, rfl, ⟨otf_25, off_26, otd_23, oan_9, hw, by rw [ht]; exact hP, hD⟩⟩, hS.F ht⟩) hS.2.2 dX2_whole_59)
def R_scale (tf : Nat → Int32) (ff : Nat → Int64) (cw : Int32) (td : Int32) (an : Bool) (ra : Int32) (rb : Int32) (rc : Int32) : Int32 × Int32 × (Nat → Int32) × (Nat → Int64) × Int32 × Bool :=
  if R_need ra = true then (if R_need rb = true then (if R_need rc = true then (tup2 ((R_read (tf ra.toNatClampNeg) (ff ra.toNatClampNeg))) (fun vt_5 vf_6 =>
          tup2 ((R_read (tf rb.toNatClampNeg) (ff rb.toNatClampNeg))) (fun vt_9 vf_10 =>
            tup3 ((R_goesOn cw vt_5 vf_6 vt_9 vf_10 (R_beyond vt_9 vf_10) false)) (fun v_12 otd_13 oan_14 =>
              if bI v_12 = 0 then (if bI oan_14 = 0 then (otd_13, 0, tf, ff, otd_13, oan_14)
                else (tup2 ((R_subst vt_5 vf_6 vt_9 vf_10)) (fun vt_19 vf_20 =>
                    tup2 ((R_write tf ff rc vt_19 vf_20)) (fun otf_22 off_23 =>
                      (otd_13, 0, otf_22, off_23, otd_13, oan_14)))))
              else (tup3 ((R_scaled cw otd_13 vt_5 vf_6 vt_9 vf_10)) (fun vt_26 vf_27 otd_28 =>
                  tup2 ((R_write tf ff rc vt_26 vf_27)) (fun otf_30 off_31 =>
                    (otd_28, 0, otf_30, off_31, otd_28, oan_14))))))))
      else (0, 1, tf, ff, td, an))
    else (0, 1, tf, ff, td, an))
  else (0, 1, tf, ff, td, an)
theorem kS_X2_scale : yX2_scale.cls ≠ "java/lang/invoke/MethodHandle" ∧ yX2_scale.cls ≠ "java/lang/invoke/VarHandle" ∧ (parseMethodDescriptor yX2_scale.desc).map (fun d => d.parameters.length) = some 3 := by decide +kernel
theorem kV_X2_scale : yX2_scale.cls = RX2 ∧ yX2_scale.cls ≠ "java/lang/invoke/MethodHandle" ∧ yX2_scale.cls ≠ "java/lang/invoke/VarHandle" ∧ (parseMethodDescriptor yX2_scale.desc).map (fun d => d.parameters.length) = some 3 := ⟨rfl, kS_X2_scale⟩
set_option maxHeartbeats 4000000 in
set_option maxRecDepth 100000 in
theorem c_X2_scale (l : Launch) (hl9 : l.stackTraces = false) (D : va_G) (ad : Nat → Nat) (h : Nat) (q1 : Nat) (q2 : Nat) (cA : ClassId) (cB : ClassId) (tf : Nat → Int32) (ff : Nat → Int64) (cw : Int32) (td : Int32) (an : Bool) (qb : Int32) (pa : Bool) (ra : Int32) (rb : Int32) (rc : Int32) (sz : Nat) : vx_Met l yX2_scale wsX2_scale ({ frames := 8, cells := 6, slots := 24, locals := 203 } : Room) (va_Pc [.ref h, .int ra, .int rb, .int rc] (TXB (MRB D ad h q1 q2 (tRS cA cB) (cRS h q1 q2 cA cB tf ff cw td an qb pa) [] sz))) (va_Qi (fun (r u : Int32) => r = u) (fun u t => ∃ (w_tf : Nat → Int32) (w_ff : Nat → Int64) (w_td : Int32) (w_an : Bool), R_scale tf ff cw td an ra rb rc = (u, 0, w_tf, w_ff, w_td, w_an) ∧ va_P D vwCl (cRS h q1 q2 cA cB w_tf w_ff cw w_td w_an qb pa) t.heap ∧ va_D (va_A (cRS h q1 q2 cA cB tf ff cw td an qb pa) sz) (cRS h q1 q2 cA cB w_tf w_ff cw w_td w_an qb pa)) (va_A (cRS h q1 q2 cA cB tf ff cw td an qb pa) sz)) (vx_X (fun _ : Unit => True) (fun E _ t => ∃ k : Int32, R_scale tf ff cw td an ra rb rc = (0, k, tf, ff, td, an) ∧ (E = xIOB ∧ k = 1) ∧ va_P D vwCl (cRS h q1 q2 cA cB tf ff cw td an qb pa) t.heap) (va_A (cRS h q1 q2 cA cB tf ff cw td an qb pa) sz)) 6 24 (va_A (cRS h q1 q2 cA cB tf ff cw td an qb pa) sz) := by
  refine vx_ofW (cc := cX2_scale) (maxL := 6) (ret := (some .int)) (by decide) rfl ?_
  intro p e s m args below meth c s₁ B hml htb hv
  obtain ⟨rfl, ⟨hsz, hP, hK, hD0, hR0, hRp, hE⟩, hDW⟩ := hv
  have hx := B.exec
  have hb := B.bytes
  have hr := B.returns
  have hts := atoms_spec (ws := wsX2_scale) B.pre
  have hown : s.vm.findClass RX2 = some m.cls := findClass_of_methodNamed B.named
  have hlocks := B.notSynchronized
  have w_1 := hts (.fieldLink RX2 24 "RealSteps" "answered" "Z") (by decide +kernel)
  have in_X2 : ∀ w ∈ wsX20, w ∈ wsX2_scale := by decide +kernel
  have w_3 := hts (.fieldLink RX2 21 "RealSteps" "toldBits" "I") (by decide +kernel)
  subst hsz
  have hD := hD0.self (sz := s.heap.size)
  have hRA := rs_A hR0 hRp (e1 := .inr (1, [.ref q1, .ref q2, .int cw, .int td, .int (bI an), .int qb, .int (bI pa)])) (e2 := .inl (cA, 8, .inl tf)) (e3 := .inl (cB, 8, .inr (.inl ff)))
  generalize hAe : va_A (cRS h q1 q2 cA cB tf ff cw td an qb pa) s.heap.size = A at hD hE hRA ⊢
  have hA : ∀ q : Nat, s.heap.size ≤ q → A q := fun q h => by rw [← hAe]; exact Or.inr h
  have hS : va_S A s.heap s.heap [] := va_S.rf
  have hP : va_P D vwCl (cRS h q1 q2 cA cB tf ff cw td an qb pa) s.heap := hP
  have hl := lv_entry ([.ref h, .int ra, .int rb, .int rc]) (n := 6) (Nat.le_of_ble_eq_true rfl)
  rw [lg_entry_eq]
  generalize (lg_sl ([.ref h, .int ra, .int rb, .int rc]) ++ List.replicate (6 - (lg_sl ([.ref h, .int ra, .int rb, .int rc])).length) Slot.unset).toArray = ls at hl ⊢
  have hl : lv_has ls 6 [(0, .ref h), (1, .int ra), (2, .int rb), (3, .int rc)] := hl
  refine lv_iload_n hx hb dX2_scale_0 rfl (lv_at hl 1 rfl) ?_
  have hFc : ∀ q, va_A [] s.heap.size q → A q := va_free (wc := []) hD hS hA [] rfl
  refine vx_callv (vx_runS (As := [.int ra]) (rest := []) ⟨hx, hb, hml, hown, hts⟩ (c_X2_needRegister l hl9 D ad ra s.heap.size) (va_cwS 1 hts gX2_scale_X2_needRegister rfl rfl rfl kS_X2_needRegister ⟨Nat.le_of_ble_eq_true rfl, Nat.le_of_ble_eq_true rfl⟩) ⟨TXB.blind SCB.blind, TXB.pre (SCB.pre hK vP_nil hE hS hFc) hDW⟩ rfl rfl hl.1 rfl (lv_room (Nat.le_of_ble_eq_true rfl)) dX2_scale_1 ⟨Nat.le_of_ble_eq_true rfl, Nat.le_of_ble_eq_true rfl⟩) hS (fun q _ h9 => hFc q h9) hFc (fun q _ h9 => hFc q h9) (fun E9 ce9 q9 u9 t9 H9 locs9 ht hvm c_1 hB hz1 hk1 hS9 hce9 hcv9 hcl9 => ?_) (fun u9 t9 H locs ht hvm c_1 hB hz1 hk1 hS => ?_)
  · have hw : R_scale tf ff cw td an ra rb rc = (0, 1, tf, ff, td, an) := by unfold R_scale; rw [if_neg c_1]; try rfl
    exact vx_out (fun x h => (htb x h).elim) hlocks hce9 hcv9 hcl9 (fun t9 ht ha => ⟨(), trivial, ⟨1, hw, ⟨hB, rfl⟩, by rw [ht]; exact ro_make hP hk1⟩, hS9.F ht⟩) hS9.2.2 (Nat.le_of_ble_eq_true rfl) (Nat.le_of_ble_eq_true rfl)
  · have hP : va_P D vwCl (cRS h q1 q2 cA cB tf ff cw td an qb pa) H := ro_make hP hk1
    refine lv_iload_n hx hb dX2_scale_4 rfl (lv_at hl 2 rfl) ?_
    have hFc : ∀ q, va_A [] H.size q → A q := va_free (wc := []) hD hS hA [] rfl
    refine vx_callv (vx_runS (As := [.int rb]) (rest := []) ⟨hx, hb, hml, hown, hts⟩ (c_X2_needRegister l hl9 D ad rb H.size) (va_cwS 1 hts gX2_scale_X2_needRegister rfl rfl rfl kS_X2_needRegister ⟨Nat.le_of_ble_eq_true rfl, Nat.le_of_ble_eq_true rfl⟩) ⟨TXB.blind SCB.blind, TXB.pre (SCB.pre hK vP_nil hE hS hFc) hDW⟩ rfl rfl hl.1 rfl (lv_room (Nat.le_of_ble_eq_true rfl)) dX2_scale_5 ⟨Nat.le_of_ble_eq_true rfl, Nat.le_of_ble_eq_true rfl⟩) hS (fun q _ h9 => hFc q h9) hFc (fun q _ h9 => hFc q h9) (fun E9 ce9 q9 u9 t9 H9 locs9 ht hvm c_2 hB hz1 hk1 hS9 hce9 hcv9 hcl9 => ?_) (fun u9 t9 H locs ht hvm c_2 hB hz1 hk1 hS => ?_)
    · have hw : R_scale tf ff cw td an ra rb rc = (0, 1, tf, ff, td, an) := by unfold R_scale; rw [if_pos c_1, if_neg c_2]; try rfl
      exact vx_out (fun x h => (htb x h).elim) hlocks hce9 hcv9 hcl9 (fun t9 ht ha => ⟨(), trivial, ⟨1, hw, ⟨hB, rfl⟩, by rw [ht]; exact ro_make hP hk1⟩, hS9.F ht⟩) hS9.2.2 (Nat.le_of_ble_eq_true rfl) (Nat.le_of_ble_eq_true rfl)
    · have hP : va_P D vwCl (cRS h q1 q2 cA cB tf ff cw td an qb pa) H := ro_make hP hk1
      refine lv_iload_n hx hb dX2_scale_8 rfl (lv_at hl 3 rfl) ?_
      have hFc : ∀ q, va_A [] H.size q → A q := va_free (wc := []) hD hS hA [] rfl
      refine vx_callv (vx_runS (As := [.int rc]) (rest := []) ⟨hx, hb, hml, hown, hts⟩ (c_X2_needRegister l hl9 D ad rc H.size) (va_cwS 1 hts gX2_scale_X2_needRegister rfl rfl rfl kS_X2_needRegister ⟨Nat.le_of_ble_eq_true rfl, Nat.le_of_ble_eq_true rfl⟩) ⟨TXB.blind SCB.blind, TXB.pre (SCB.pre hK vP_nil hE hS hFc) hDW⟩ rfl rfl hl.1 rfl (lv_room (Nat.le_of_ble_eq_true rfl)) dX2_scale_9 ⟨Nat.le_of_ble_eq_true rfl, Nat.le_of_ble_eq_true rfl⟩) hS (fun q _ h9 => hFc q h9) hFc (fun q _ h9 => hFc q h9) (fun E9 ce9 q9 u9 t9 H9 locs9 ht hvm c_3 hB hz1 hk1 hS9 hce9 hcv9 hcl9 => ?_) (fun u9 t9 H locs ht hvm c_3 hB hz1 hk1 hS => ?_)
      · have hw : R_scale tf ff cw td an ra rb rc = (0, 1, tf, ff, td, an) := by unfold R_scale; rw [if_pos c_1, if_pos c_2, if_neg c_3]; try rfl
        exact vx_out (fun x h => (htb x h).elim) hlocks hce9 hcv9 hcl9 (fun t9 ht ha => ⟨(), trivial, ⟨1, hw, ⟨hB, rfl⟩, by rw [ht]; exact ro_make hP hk1⟩, hS9.F ht⟩) hS9.2.2 (Nat.le_of_ble_eq_true rfl) (Nat.le_of_ble_eq_true rfl)
      · have hP : va_P D vwCl (cRS h q1 q2 cA cB tf ff cw td an qb pa) H := ro_make hP hk1
        refine lv_aload_n hx hb dX2_scale_12 rfl (lv_at hl 0 rfl) ?_
        refine lv_iload_n hx hb dX2_scale_13 rfl (lv_at hl 1 rfl) ?_
        have hFc := va_free (wc := cRS h q1 q2 cA cB tf ff cw td an qb pa) hD hS hA [0, 1, 2] rfl
        refine va_callr (va_runV (As := [.int ra]) (rest := []) ⟨hx, hb, hml, hown, hts⟩ (c_X2_read l D ad h q1 q2 cA cB tf ff cw td an qb pa ra H.size (R_need_in c_1)) (cwV 1 hts gX2_scale_X2_read rfl rfl rfl kV_X2_read ⟨Nat.le_of_ble_eq_true rfl, Nat.le_of_ble_eq_true rfl⟩) ⟨MRB.blind, va_recv hK hP (ci := 1) (q0 := 0) rfl rfl, MRB.pre hK hP hD vP_nil ap_nil hE hS hFc⟩ rfl rfl hl.1 rfl (lv_room (Nat.le_of_ble_eq_true rfl)) dX2_scale_14 ⟨Nat.le_of_ble_eq_true rfl, Nat.le_of_ble_eq_true rfl⟩) hS (fun q _ h9 => hFc q h9) hFc (fun u9 y_4 t9 H locs ht hvm hw hB hz1 hk1 hS => ?_)
        obtain ⟨vt_5, vf_6, e_7, hP, hD9, hx_y_4, nx_y_4⟩ := hB
        rw [ht] at hP hx_y_4
        have hD : va_D A (cRS h q1 q2 cA cB tf ff cw td an qb pa) := hD9.weaken (fun _ _ _ h => hFc _ h)
        refine lv_astore (lv' := [(4, .ref y_4), (0, .ref h), (1, .int ra), (2, .int rb), (3, .int rc)]) hx hb dX2_scale_17 hl (by decide) rfl (fun ls hl => ?_)
        refine lv_aload_n hx hb dX2_scale_19 rfl (lv_at hl 1 rfl) ?_
        refine lv_iload_n hx hb dX2_scale_20 rfl (lv_at hl 3 rfl) ?_
        have hFc := va_free (wc := cRS h q1 q2 cA cB tf ff cw td an qb pa) hD hS hA [0, 1, 2] rfl
        refine va_callr (va_runV (As := [.int rb]) (rest := []) ⟨hx, hb, hml, hown, hts⟩ (c_X2_read l D ad h q1 q2 cA cB tf ff cw td an qb pa rb H.size (R_need_in c_2)) (cwV 1 hts gX2_scale_X2_read rfl rfl rfl kV_X2_read ⟨Nat.le_of_ble_eq_true rfl, Nat.le_of_ble_eq_true rfl⟩) ⟨MRB.blind, va_recv hK hP (ci := 1) (q0 := 0) rfl rfl, MRB.pre hK hP hD vP_nil ap_nil hE hS hFc⟩ rfl rfl hl.1 rfl (lv_room (Nat.le_of_ble_eq_true rfl)) dX2_scale_21 ⟨Nat.le_of_ble_eq_true rfl, Nat.le_of_ble_eq_true rfl⟩) hS (fun q _ h9 => hFc q h9) hFc (fun u9 y_8 t9 H locs ht hvm hw hB hz1 hk1 hS => ?_)
        obtain ⟨vt_9, vf_10, e_11, hP, hD9, hx_y_8, nx_y_8⟩ := hB
        rw [ht] at hP hx_y_8
        have hD : va_D A (cRS h q1 q2 cA cB tf ff cw td an qb pa) := hD9.weaken (fun _ _ _ h => hFc _ h)
        have hx_y_4 := ro_keep hx_y_4 nx_y_4 hk1
        refine lv_astore (lv' := [(5, .ref y_8), (4, .ref y_4), (0, .ref h), (1, .int ra), (2, .int rb), (3, .int rc)]) hx hb dX2_scale_24 hl (by decide) rfl (fun ls hl => ?_)
        refine lv_aload_n hx hb dX2_scale_26 rfl (lv_at hl 2 rfl) ?_
        refine lv_aload hx hb dX2_scale_27 (lv_at hl 1 rfl) ?_
        refine lv_aload hx hb dX2_scale_29 (lv_at hl 0 rfl) ?_
        refine lv_aload hx hb dX2_scale_31 (lv_at hl 0 rfl) ?_
        refine vp_callSi (va_cr (va_runS (As := [.ref y_8]) (rest := [.ref y_8, .ref y_4, .ref h]) ⟨hx, hb, hml, hown, hts⟩ (c_X2_isBeyondScale l D ad y_8 vt_9 vf_10) (va_cwS 1 hts gX2_scale_X2_isBeyondScale rfl rfl rfl kS_X2_isBeyondScale ⟨Nat.le_of_ble_eq_true rfl, Nat.le_of_ble_eq_true rfl⟩) ⟨EB.blind, EB.pre (hK.sub [] rfl) hx_y_8 hE hS⟩ rfl rfl hl.1 rfl (lv_room (Nat.le_of_ble_eq_true rfl)) dX2_scale_33 ⟨Nat.le_of_ble_eq_true rfl, Nat.le_of_ble_eq_true rfl⟩)) (fun r9 e9 => ?_)
        rw [e9]
        refine lv_iconst (v := 0) hx hb dX2_scale_36 (by decide) ?_
        have hFc := va_free (wc := cRS h q1 q2 cA cB tf ff cw td an qb pa) hD hS hA [0, 1, 2] rfl
        refine va_calli (va_runV (As := [.ref y_4, .ref y_8, .int (bI (R_beyond vt_9 vf_10)), .int (bI false)]) (rest := []) ⟨hx, hb, hml, hown, hts⟩ (c_X2_goesOn l D ad h q1 q2 cA cB tf ff cw td an qb pa y_4 vt_5 vf_6 y_8 vt_9 vf_10 (R_beyond vt_9 vf_10) false H.size) (cwV 4 hts gX2_scale_X2_goesOn rfl rfl rfl kV_X2_goesOn ⟨Nat.le_of_ble_eq_true rfl, Nat.le_of_ble_eq_true rfl⟩) ⟨MRB.blind, va_recv hK hP (ci := 1) (q0 := 0) rfl rfl, MRB.pre hK hP hD (vP_one hx_y_4 (vP_one hx_y_8 vP_nil)) (ap_one nx_y_4 (ap_one nx_y_8 ap_nil)) hE hS hFc⟩ rfl rfl hl.1 rfl (lv_room (Nat.le_of_ble_eq_true rfl)) dX2_scale_37 ⟨Nat.le_of_ble_eq_true rfl, Nat.le_of_ble_eq_true rfl⟩) hS (fun q _ h9 => hFc q h9) hFc (fun r9 v_12 t9 H locs ht hvm hw hB hz1 hk1 hS => ?_)
        obtain rfl := hw
        obtain ⟨otd_13, oan_14, e_15, hP, hD9⟩ := hB
        rw [ht] at hP
        have hD : va_D A (cRS h q1 q2 cA cB tf ff cw otd_13 oan_14 qb pa) := hD9.weaken (fun _ _ _ h => hFc _ h)
        have hx_y_4 := ro_keep hx_y_4 nx_y_4 hk1
        have hx_y_8 := ro_keep hx_y_8 nx_y_8 hk1
        refine lv_if_eq (tgt := 59) hx hb dX2_scale_40 (by decide) (fun c_16 => ?_) (fun c_16 => ?_)
        · refine lv_aload_n hx hb dX2_scale_59 rfl (lv_at hl 2 rfl) ?_
          refine va_get (v := .int (bI oan_14)) (C := RX2) (T := TX2) (N := 7) hx hb hts in_X2 hown hK hP 0 rfl rfl 4 (by decide) w_1 (fun _ h9 => h9) rfl dX2_scale_60 ?_
          refine lv_if_eq (tgt := 78) hx hb dX2_scale_63 (by decide) (fun c_17 => ?_) (fun c_17 => ?_)
          · refine lv_aload_n hx hb dX2_scale_78 rfl (lv_at hl 2 rfl) ?_
            refine va_get (v := .int otd_13) (C := RX2) (T := TX2) (N := 7) hx hb hts in_X2 hown hK hP 0 rfl rfl 3 (by decide) w_3 (fun _ h9 => h9) rfl dX2_scale_79 ?_
            refine W.widen (k := 6) (n := 24) (Nat.le_of_ble_eq_true rfl) (Nat.le_of_ble_eq_true rfl) ?_
            have hw : R_scale tf ff cw td an ra rb rc = (otd_13, 0, tf, ff, otd_13, oan_14) := by unfold R_scale; rw [if_pos c_1, if_pos c_2, if_pos c_3, tup2_e e_7, tup2_e e_11, tup3_e e_15, if_pos c_16, if_pos c_17]; try rfl
            exact vx_ret (W.iret hx hb hr (fun t9 ht hW => ⟨⟨_, otd_13, rfl, rfl, ⟨tf, ff, otd_13, oan_14, hw, by rw [ht]; exact hP, hD⟩⟩, hS.F ht⟩) hS.2.2 dX2_scale_82)
          · refine lv_aload_n hx hb dX2_scale_66 rfl (lv_at hl 2 rfl) ?_
            refine lv_iload_n hx hb dX2_scale_67 rfl (lv_at hl 5 rfl) ?_
            refine lv_aload hx hb dX2_scale_68 (lv_at hl 1 rfl) ?_
            refine lv_aload hx hb dX2_scale_70 (lv_at hl 0 rfl) ?_
            have hFc : ∀ q, va_A [] H.size q → A q := va_free (wc := []) hD hS hA [] rfl
            refine va_callr (va_runS (As := [.ref y_4, .ref y_8]) (rest := [.int rc, .ref h]) ⟨hx, hb, hml, hown, hts⟩ (c_X2_substitute l D ad y_4 vt_5 vf_6 y_8 vt_9 vf_10 H.size) (va_cwS 2 hts gX2_scale_X2_substitute rfl rfl rfl kS_X2_substitute ⟨Nat.le_of_ble_eq_true rfl, Nat.le_of_ble_eq_true rfl⟩) ⟨SCB.blind, SCB.pre hK (vP_one hx_y_4 (vP_one hx_y_8 vP_nil)) hE hS hFc⟩ rfl rfl hl.1 rfl (lv_room (Nat.le_of_ble_eq_true rfl)) dX2_scale_72 ⟨Nat.le_of_ble_eq_true rfl, Nat.le_of_ble_eq_true rfl⟩) hS (fun q _ h9 => hFc q h9) hFc (fun u9 y_18 t9 H locs ht hvm hw hB hz1 hk1 hS => ?_)
            obtain ⟨vt_19, vf_20, e_21, hx_y_18, nz_y_18⟩ := hB
            rw [ht] at hx_y_18
            have nx_y_18 : ap3 y_18 h q1 q2 := by
              rcases nz_y_18 with z | z | z
              · rw [z]; exact nx_y_4
              · rw [z]; exact nx_y_8
              · exact ap_new hP z
            have hP : va_P D vwCl (cRS h q1 q2 cA cB tf ff cw otd_13 oan_14 qb pa) H := ro_make hP hk1
            have hx_y_4 := ro_make hx_y_4 hk1
            have hx_y_8 := ro_make hx_y_8 hk1
            have hFc := va_free (wc := cRS h q1 q2 cA cB tf ff cw otd_13 oan_14 qb pa) hD hS hA [0, 1, 2] rfl
            refine va_callv (va_runV (As := [.int rc, .ref y_18]) (rest := []) ⟨hx, hb, hml, hown, hts⟩ (c_X2_write l D ad h q1 q2 cA cB tf ff cw otd_13 oan_14 qb pa y_18 vt_19 vf_20 rc H.size (R_need_in c_3)) (cwV 2 hts gX2_scale_X2_write rfl rfl rfl kV_X2_write ⟨Nat.le_of_ble_eq_true rfl, Nat.le_of_ble_eq_true rfl⟩) ⟨MRB.blind, va_recv hK hP (ci := 1) (q0 := 0) rfl rfl, MRB.pre hK hP hD (vP_one hx_y_18 vP_nil) (ap_one nx_y_18 ap_nil) hE hS hFc⟩ rfl rfl hl.1 rfl (lv_room (Nat.le_of_ble_eq_true rfl)) dX2_scale_75 ⟨Nat.le_of_ble_eq_true rfl, Nat.le_of_ble_eq_true rfl⟩) hS (fun q _ h9 => hFc q h9) hFc (fun u9 t9 H locs ht hvm hw hB hz1 hk1 hS => ?_)
            obtain ⟨otf_22, off_23, e_24, hP, hD9⟩ := hB
            rw [ht] at hP
            have hD : va_D A (cRS h q1 q2 cA cB otf_22 off_23 cw otd_13 oan_14 qb pa) := hD9.weaken (fun _ _ _ h => hFc _ h)
            have hx_y_4 := ro_keep hx_y_4 nx_y_4 hk1
            have hx_y_8 := ro_keep hx_y_8 nx_y_8 hk1
            have hx_y_18 := ro_keep hx_y_18 nx_y_18 hk1
            refine lv_aload_n hx hb dX2_scale_78 rfl (lv_at hl 2 rfl) ?_
            refine va_get (v := .int otd_13) (C := RX2) (T := TX2) (N := 7) hx hb hts in_X2 hown hK hP 0 rfl rfl 3 (by decide) w_3 (fun _ h9 => h9) rfl dX2_scale_79 ?_
            have hw : R_scale tf ff cw td an ra rb rc = (otd_13, 0, otf_22, off_23, otd_13, oan_14) := by unfold R_scale; rw [if_pos c_1, if_pos c_2, if_pos c_3, tup2_e e_7, tup2_e e_11, tup3_e e_15, if_pos c_16, if_neg c_17, tup2_e e_21, tup2_e e_24]; try rfl
            exact vx_ret (W.iret hx hb hr (fun t9 ht hW => ⟨⟨_, otd_13, rfl, rfl, ⟨otf_22, off_23, otd_13, oan_14, hw, by rw [ht]; exact hP, hD⟩⟩, hS.F ht⟩) hS.2.2 dX2_scale_82)
        · refine lv_aload_n hx hb dX2_scale_43 rfl (lv_at hl 2 rfl) ?_
          refine lv_iload_n hx hb dX2_scale_44 rfl (lv_at hl 5 rfl) ?_
          refine lv_aload_n hx hb dX2_scale_45 rfl (lv_at hl 2 rfl) ?_
          refine lv_aload hx hb dX2_scale_46 (lv_at hl 1 rfl) ?_
          refine lv_aload hx hb dX2_scale_48 (lv_at hl 0 rfl) ?_
          have hFc := va_free (wc := cRS h q1 q2 cA cB tf ff cw otd_13 oan_14 qb pa) hD hS hA [0, 1, 2] rfl
          refine va_callr (va_runV (As := [.ref y_4, .ref y_8]) (rest := [.int rc, .ref h]) ⟨hx, hb, hml, hown, hts⟩ (c_X2_scaled l D ad h q1 q2 cA cB tf ff cw otd_13 oan_14 qb pa y_4 vt_5 vf_6 y_8 vt_9 vf_10 H.size) (cwV 2 hts gX2_scale_X2_scaled rfl rfl rfl kV_X2_scaled ⟨Nat.le_of_ble_eq_true rfl, Nat.le_of_ble_eq_true rfl⟩) ⟨MRB.blind, va_recv hK hP (ci := 1) (q0 := 0) rfl rfl, MRB.pre hK hP hD (vP_one hx_y_4 (vP_one hx_y_8 vP_nil)) (ap_one nx_y_4 (ap_one nx_y_8 ap_nil)) hE hS hFc⟩ rfl rfl hl.1 rfl (lv_room (Nat.le_of_ble_eq_true rfl)) dX2_scale_50 ⟨Nat.le_of_ble_eq_true rfl, Nat.le_of_ble_eq_true rfl⟩) hS (fun q _ h9 => hFc q h9) hFc (fun u9 y_25 t9 H locs ht hvm hw hB hz1 hk1 hS => ?_)
          obtain ⟨vt_26, vf_27, otd_28, e_29, hP, hD9, hx_y_25, nx_y_25⟩ := hB
          rw [ht] at hP hx_y_25
          have hD : va_D A (cRS h q1 q2 cA cB tf ff cw otd_28 oan_14 qb pa) := hD9.weaken (fun _ _ _ h => hFc _ h)
          have hx_y_4 := ro_keep hx_y_4 nx_y_4 hk1
          have hx_y_8 := ro_keep hx_y_8 nx_y_8 hk1
          have hFc := va_free (wc := cRS h q1 q2 cA cB tf ff cw otd_28 oan_14 qb pa) hD hS hA [0, 1, 2] rfl
          refine va_callv (va_runV (As := [.int rc, .ref y_25]) (rest := []) ⟨hx, hb, hml, hown, hts⟩ (c_X2_write l D ad h q1 q2 cA cB tf ff cw otd_28 oan_14 qb pa y_25 vt_26 vf_27 rc H.size (R_need_in c_3)) (cwV 2 hts gX2_scale_X2_write rfl rfl rfl kV_X2_write ⟨Nat.le_of_ble_eq_true rfl, Nat.le_of_ble_eq_true rfl⟩) ⟨MRB.blind, va_recv hK hP (ci := 1) (q0 := 0) rfl rfl, MRB.pre hK hP hD (vP_one hx_y_25 vP_nil) (ap_one nx_y_25 ap_nil) hE hS hFc⟩ rfl rfl hl.1 rfl (lv_room (Nat.le_of_ble_eq_true rfl)) dX2_scale_53 ⟨Nat.le_of_ble_eq_true rfl, Nat.le_of_ble_eq_true rfl⟩) hS (fun q _ h9 => hFc q h9) hFc (fun u9 t9 H locs ht hvm hw hB hz1 hk1 hS => ?_)
          obtain ⟨otf_30, off_31, e_32, hP, hD9⟩ := hB
          rw [ht] at hP
          have hD : va_D A (cRS h q1 q2 cA cB otf_30 off_31 cw otd_28 oan_14 qb pa) := hD9.weaken (fun _ _ _ h => hFc _ h)
          have hx_y_4 := ro_keep hx_y_4 nx_y_4 hk1
          have hx_y_8 := ro_keep hx_y_8 nx_y_8 hk1
          have hx_y_25 := ro_keep hx_y_25 nx_y_25 hk1
          refine lv_goto (tgt := 78) hx hb dX2_scale_56 (by decide) ?_
          refine lv_aload_n hx hb dX2_scale_78 rfl (lv_at hl 2 rfl) ?_
          refine va_get (v := .int otd_28) (C := RX2) (T := TX2) (N := 7) hx hb hts in_X2 hown hK hP 0 rfl rfl 3 (by decide) w_3 (fun _ h9 => h9) rfl dX2_scale_79 ?_
          have hw : R_scale tf ff cw td an ra rb rc = (otd_28, 0, otf_30, off_31, otd_28, oan_14) := by unfold R_scale; rw [if_pos c_1, if_pos c_2, if_pos c_3, tup2_e e_7, tup2_e e_11, tup3_e e_15, if_neg c_16, tup3_e e_29, tup2_e e_32]; try rfl
          exact vx_ret (W.iret hx hb hr (fun t9 ht hW => ⟨⟨_, otd_28, rfl, rfl, ⟨otf_30, off_31, otd_28, oan_14, hw, by rw [ht]; exact hP, hD⟩⟩, hS.F ht⟩) hS.2.2 dX2_scale_82)
def R_extract (tf : Nat → Int32) (ff : Nat → Int64) (cw : Int32) (td : Int32) (an : Bool) (ra : Int32) (rp : Int32) (rc : Int32) : Int32 × Int32 × (Nat → Int32) × (Nat → Int64) × Int32 × Bool :=
  if R_need ra = true then (if R_need rp = true then (if R_need rc = true then (if rp = rc then (0, 2, tf, ff, td, an)
        else (tup2 ((R_read (tf ra.toNatClampNeg) (ff ra.toNatClampNeg))) (fun vt_6 vf_7 =>
            tup3 ((R_goesOn cw vt_6 vf_7 vt_6 vf_7 false (R_nought vt_6 vf_7))) (fun v_9 otd_10 oan_11 =>
              if bI v_9 = 0 then (if bI oan_11 = 0 then (otd_10, 0, tf, ff, otd_10, oan_11)
                else (tup2 ((R_subst vt_6 vf_7 vt_6 vf_7)) (fun vt_16 vf_17 =>
                    tup2 ((R_write tf ff rp vt_16 vf_17)) (fun otf_19 off_20 =>
                      tup2 ((R_subst vt_6 vf_7 vt_6 vf_7)) (fun vt_23 vf_24 =>
                        tup2 ((R_write otf_19 off_20 rc vt_23 vf_24)) (fun otf_26 off_27 =>
                          (otd_10, 0, otf_26, off_27, otd_10, oan_11)))))))
              else (tup3 ((R_powerOf cw otd_10 vt_6 vf_7)) (fun vt_30 vf_31 otd_32 =>
                  tup2 ((R_write tf ff rp vt_30 vf_31)) (fun otf_34 off_35 =>
                    tup3 ((R_fractionOf cw otd_32 vt_6 vf_7)) (fun vt_38 vf_39 otd_40 =>
                      tup2 ((R_write otf_34 off_35 rc vt_38 vf_39)) (fun otf_42 off_43 =>
                        (otd_40, 0, otf_42, off_43, otd_40, oan_11))))))))))
      else (0, 1, tf, ff, td, an))
    else (0, 1, tf, ff, td, an))
  else (0, 1, tf, ff, td, an)
theorem kS_X2_extract : yX2_extract.cls ≠ "java/lang/invoke/MethodHandle" ∧ yX2_extract.cls ≠ "java/lang/invoke/VarHandle" ∧ (parseMethodDescriptor yX2_extract.desc).map (fun d => d.parameters.length) = some 3 := by decide +kernel
theorem kV_X2_extract : yX2_extract.cls = RX2 ∧ yX2_extract.cls ≠ "java/lang/invoke/MethodHandle" ∧ yX2_extract.cls ≠ "java/lang/invoke/VarHandle" ∧ (parseMethodDescriptor yX2_extract.desc).map (fun d => d.parameters.length) = some 3 := ⟨rfl, kS_X2_extract⟩
set_option maxHeartbeats 4000000 in
set_option maxRecDepth 100000 in
theorem c_X2_extract (l : Launch) (hl9 : l.stackTraces = false) (D : va_G) (ad : Nat → Nat) (h : Nat) (q1 : Nat) (q2 : Nat) (cA : ClassId) (cB : ClassId) (tf : Nat → Int32) (ff : Nat → Int64) (cw : Int32) (td : Int32) (an : Bool) (qb : Int32) (pa : Bool) (ra : Int32) (rp : Int32) (rc : Int32) (sz : Nat) : vx_Met l yX2_extract wsX2_extract ({ frames := 8, cells := 6, slots := 24, locals := 203 } : Room) (va_Pc [.ref h, .int ra, .int rp, .int rc] (TXB (MRB D ad h q1 q2 (tRS cA cB) (cRS h q1 q2 cA cB tf ff cw td an qb pa) [] sz))) (va_Qi (fun (r u : Int32) => r = u) (fun u t => ∃ (w_tf : Nat → Int32) (w_ff : Nat → Int64) (w_td : Int32) (w_an : Bool), R_extract tf ff cw td an ra rp rc = (u, 0, w_tf, w_ff, w_td, w_an) ∧ va_P D vwCl (cRS h q1 q2 cA cB w_tf w_ff cw w_td w_an qb pa) t.heap ∧ va_D (va_A (cRS h q1 q2 cA cB tf ff cw td an qb pa) sz) (cRS h q1 q2 cA cB w_tf w_ff cw w_td w_an qb pa)) (va_A (cRS h q1 q2 cA cB tf ff cw td an qb pa) sz)) (vx_X (fun _ : Unit => True) (fun E _ t => ∃ k : Int32, R_extract tf ff cw td an ra rp rc = (0, k, tf, ff, td, an) ∧ ((E = xIOB ∧ k = 1) ∨ (E = xIAE ∧ k = 2)) ∧ va_P D vwCl (cRS h q1 q2 cA cB tf ff cw td an qb pa) t.heap) (va_A (cRS h q1 q2 cA cB tf ff cw td an qb pa) sz)) 6 24 (va_A (cRS h q1 q2 cA cB tf ff cw td an qb pa) sz) := by
  refine vx_ofW (cc := cX2_extract) (maxL := 5) (ret := (some .int)) (by decide) rfl ?_
  intro p e s m args below meth c s₁ B hml htb hv
  obtain ⟨rfl, ⟨hsz, hP, hK, hD0, hR0, hRp, hE⟩, hDW⟩ := hv
  have hx := B.exec
  have hb := B.bytes
  have hr := B.returns
  have hts := atoms_spec (ws := wsX2_extract) B.pre
  have hown : s.vm.findClass RX2 = some m.cls := findClass_of_methodNamed B.named
  have hlocks := B.notSynchronized
  have w_1 := hts (.initialized RX1) (by decide +kernel)
  have w_2 := hts (.instanceMethod yX1_isNought) (by decide +kernel)
  have w_3 := hts (.selects RX1 yX1_isNought yX1_isNought) (by decide +kernel)
  have w_4 := hts (.fieldLink RX2 24 "RealSteps" "answered" "Z") (by decide +kernel)
  have in_X2 : ∀ w ∈ wsX20, w ∈ wsX2_extract := by decide +kernel
  have w_6 := hts (.fieldLink RX2 21 "RealSteps" "toldBits" "I") (by decide +kernel)
  have w_7 := hts (.classLink RX2 35 xIAE) (by decide +kernel)
  have w_8 := hts (.initialized xIAE) (by decide +kernel)
  subst hsz
  have hD := hD0.self (sz := s.heap.size)
  have hRA := rs_A hR0 hRp (e1 := .inr (1, [.ref q1, .ref q2, .int cw, .int td, .int (bI an), .int qb, .int (bI pa)])) (e2 := .inl (cA, 8, .inl tf)) (e3 := .inl (cB, 8, .inr (.inl ff)))
  generalize hAe : va_A (cRS h q1 q2 cA cB tf ff cw td an qb pa) s.heap.size = A at hD hE hRA ⊢
  have hA : ∀ q : Nat, s.heap.size ≤ q → A q := fun q h => by rw [← hAe]; exact Or.inr h
  have hS : va_S A s.heap s.heap [] := va_S.rf
  have hP : va_P D vwCl (cRS h q1 q2 cA cB tf ff cw td an qb pa) s.heap := hP
  have hl := lv_entry ([.ref h, .int ra, .int rp, .int rc]) (n := 5) (Nat.le_of_ble_eq_true rfl)
  rw [lg_entry_eq]
  generalize (lg_sl ([.ref h, .int ra, .int rp, .int rc]) ++ List.replicate (5 - (lg_sl ([.ref h, .int ra, .int rp, .int rc])).length) Slot.unset).toArray = ls at hl ⊢
  have hl : lv_has ls 5 [(0, .ref h), (1, .int ra), (2, .int rp), (3, .int rc)] := hl
  refine lv_iload_n hx hb dX2_extract_0 rfl (lv_at hl 1 rfl) ?_
  have hFc : ∀ q, va_A [] s.heap.size q → A q := va_free (wc := []) hD hS hA [] rfl
  refine vx_callv (vx_runS (As := [.int ra]) (rest := []) ⟨hx, hb, hml, hown, hts⟩ (c_X2_needRegister l hl9 D ad ra s.heap.size) (va_cwS 1 hts gX2_extract_X2_needRegister rfl rfl rfl kS_X2_needRegister ⟨Nat.le_of_ble_eq_true rfl, Nat.le_of_ble_eq_true rfl⟩) ⟨TXB.blind SCB.blind, TXB.pre (SCB.pre hK vP_nil hE hS hFc) hDW⟩ rfl rfl hl.1 rfl (lv_room (Nat.le_of_ble_eq_true rfl)) dX2_extract_1 ⟨Nat.le_of_ble_eq_true rfl, Nat.le_of_ble_eq_true rfl⟩) hS (fun q _ h9 => hFc q h9) hFc (fun q _ h9 => hFc q h9) (fun E9 ce9 q9 u9 t9 H9 locs9 ht hvm c_1 hB hz1 hk1 hS9 hce9 hcv9 hcl9 => ?_) (fun u9 t9 H locs ht hvm c_1 hB hz1 hk1 hS => ?_)
  · have hw : R_extract tf ff cw td an ra rp rc = (0, 1, tf, ff, td, an) := by unfold R_extract; rw [if_neg c_1]; try rfl
    exact vx_out (fun x h => (htb x h).elim) hlocks hce9 hcv9 hcl9 (fun t9 ht ha => ⟨(), trivial, ⟨1, hw, (Or.inl ⟨hB, rfl⟩), by rw [ht]; exact ro_make hP hk1⟩, hS9.F ht⟩) hS9.2.2 (Nat.le_of_ble_eq_true rfl) (Nat.le_of_ble_eq_true rfl)
  · have hP : va_P D vwCl (cRS h q1 q2 cA cB tf ff cw td an qb pa) H := ro_make hP hk1
    refine lv_iload_n hx hb dX2_extract_4 rfl (lv_at hl 2 rfl) ?_
    have hFc : ∀ q, va_A [] H.size q → A q := va_free (wc := []) hD hS hA [] rfl
    refine vx_callv (vx_runS (As := [.int rp]) (rest := []) ⟨hx, hb, hml, hown, hts⟩ (c_X2_needRegister l hl9 D ad rp H.size) (va_cwS 1 hts gX2_extract_X2_needRegister rfl rfl rfl kS_X2_needRegister ⟨Nat.le_of_ble_eq_true rfl, Nat.le_of_ble_eq_true rfl⟩) ⟨TXB.blind SCB.blind, TXB.pre (SCB.pre hK vP_nil hE hS hFc) hDW⟩ rfl rfl hl.1 rfl (lv_room (Nat.le_of_ble_eq_true rfl)) dX2_extract_5 ⟨Nat.le_of_ble_eq_true rfl, Nat.le_of_ble_eq_true rfl⟩) hS (fun q _ h9 => hFc q h9) hFc (fun q _ h9 => hFc q h9) (fun E9 ce9 q9 u9 t9 H9 locs9 ht hvm c_2 hB hz1 hk1 hS9 hce9 hcv9 hcl9 => ?_) (fun u9 t9 H locs ht hvm c_2 hB hz1 hk1 hS => ?_)
    · have hw : R_extract tf ff cw td an ra rp rc = (0, 1, tf, ff, td, an) := by unfold R_extract; rw [if_pos c_1, if_neg c_2]; try rfl
      exact vx_out (fun x h => (htb x h).elim) hlocks hce9 hcv9 hcl9 (fun t9 ht ha => ⟨(), trivial, ⟨1, hw, (Or.inl ⟨hB, rfl⟩), by rw [ht]; exact ro_make hP hk1⟩, hS9.F ht⟩) hS9.2.2 (Nat.le_of_ble_eq_true rfl) (Nat.le_of_ble_eq_true rfl)
    · have hP : va_P D vwCl (cRS h q1 q2 cA cB tf ff cw td an qb pa) H := ro_make hP hk1
      refine lv_iload_n hx hb dX2_extract_8 rfl (lv_at hl 3 rfl) ?_
      have hFc : ∀ q, va_A [] H.size q → A q := va_free (wc := []) hD hS hA [] rfl
      refine vx_callv (vx_runS (As := [.int rc]) (rest := []) ⟨hx, hb, hml, hown, hts⟩ (c_X2_needRegister l hl9 D ad rc H.size) (va_cwS 1 hts gX2_extract_X2_needRegister rfl rfl rfl kS_X2_needRegister ⟨Nat.le_of_ble_eq_true rfl, Nat.le_of_ble_eq_true rfl⟩) ⟨TXB.blind SCB.blind, TXB.pre (SCB.pre hK vP_nil hE hS hFc) hDW⟩ rfl rfl hl.1 rfl (lv_room (Nat.le_of_ble_eq_true rfl)) dX2_extract_9 ⟨Nat.le_of_ble_eq_true rfl, Nat.le_of_ble_eq_true rfl⟩) hS (fun q _ h9 => hFc q h9) hFc (fun q _ h9 => hFc q h9) (fun E9 ce9 q9 u9 t9 H9 locs9 ht hvm c_3 hB hz1 hk1 hS9 hce9 hcv9 hcl9 => ?_) (fun u9 t9 H locs ht hvm c_3 hB hz1 hk1 hS => ?_)
      · have hw : R_extract tf ff cw td an ra rp rc = (0, 1, tf, ff, td, an) := by unfold R_extract; rw [if_pos c_1, if_pos c_2, if_neg c_3]; try rfl
        exact vx_out (fun x h => (htb x h).elim) hlocks hce9 hcv9 hcl9 (fun t9 ht ha => ⟨(), trivial, ⟨1, hw, (Or.inl ⟨hB, rfl⟩), by rw [ht]; exact ro_make hP hk1⟩, hS9.F ht⟩) hS9.2.2 (Nat.le_of_ble_eq_true rfl) (Nat.le_of_ble_eq_true rfl)
      · have hP : va_P D vwCl (cRS h q1 q2 cA cB tf ff cw td an qb pa) H := ro_make hP hk1
        refine lv_iload_n hx hb dX2_extract_12 rfl (lv_at hl 2 rfl) ?_
        refine lv_iload_n hx hb dX2_extract_13 rfl (lv_at hl 3 rfl) ?_
        refine lv_icmp_ne (tgt := 27) hx hb dX2_extract_14 (by decide) (fun c_4 => ?_) (fun c_4 => ?_)
        · refine lv_aload_n hx hb dX2_extract_27 rfl (lv_at hl 0 rfl) ?_
          refine lv_iload_n hx hb dX2_extract_28 rfl (lv_at hl 1 rfl) ?_
          have hFc := va_free (wc := cRS h q1 q2 cA cB tf ff cw td an qb pa) hD hS hA [0, 1, 2] rfl
          refine va_callr (va_runV (As := [.int ra]) (rest := []) ⟨hx, hb, hml, hown, hts⟩ (c_X2_read l D ad h q1 q2 cA cB tf ff cw td an qb pa ra H.size (R_need_in c_1)) (cwV 1 hts gX2_extract_X2_read rfl rfl rfl kV_X2_read ⟨Nat.le_of_ble_eq_true rfl, Nat.le_of_ble_eq_true rfl⟩) ⟨MRB.blind, va_recv hK hP (ci := 1) (q0 := 0) rfl rfl, MRB.pre hK hP hD vP_nil ap_nil hE hS hFc⟩ rfl rfl hl.1 rfl (lv_room (Nat.le_of_ble_eq_true rfl)) dX2_extract_29 ⟨Nat.le_of_ble_eq_true rfl, Nat.le_of_ble_eq_true rfl⟩) hS (fun q _ h9 => hFc q h9) hFc (fun u9 y_5 t9 H locs ht hvm hw hB hz1 hk1 hS => ?_)
          obtain ⟨vt_6, vf_7, e_8, hP, hD9, hx_y_5, nx_y_5⟩ := hB
          rw [ht] at hP hx_y_5
          have hD : va_D A (cRS h q1 q2 cA cB tf ff cw td an qb pa) := hD9.weaken (fun _ _ _ h => hFc _ h)
          refine lv_astore (lv' := [(4, .ref y_5), (0, .ref h), (1, .int ra), (2, .int rp), (3, .int rc)]) hx hb dX2_extract_32 hl (by decide) rfl (fun ls hl => ?_)
          refine lv_aload_n hx hb dX2_extract_34 rfl (lv_at hl 1 rfl) ?_
          refine lv_aload hx hb dX2_extract_35 (lv_at hl 0 rfl) ?_
          refine lv_aload hx hb dX2_extract_37 (lv_at hl 0 rfl) ?_
          refine lv_iconst (v := 0) hx hb dX2_extract_39 (by decide) ?_
          refine lv_aload hx hb dX2_extract_40 (lv_at hl 0 rfl) ?_
          refine vp_callSi (va_cr (va_runVN (As := []) (rest := [.int 0, .ref y_5, .ref y_5, .ref h]) ⟨hx, hb, hml, hown, hts⟩ (c_X1_isNought l D ad y_5 vt_6 vf_7) ⟨va_cnB 0 hts gX2_extract_X1_isNought_n96 rfl rfl rfl (hE.2.1 _ (List.mem_of_getElem? (i := 8) rfl)) w_1 kS_X1_isNought ⟨Nat.le_of_ble_eq_true rfl, Nat.le_of_ble_eq_true rfl⟩, w_2, w_3⟩ ⟨EB.blind, va_recv hK hx_y_5 (ci := 0) (q0 := 0) rfl rfl, EB.pre (hK.sub [] rfl) hx_y_5 hE hS⟩ rfl rfl hl.1 rfl (lv_room (Nat.le_of_ble_eq_true rfl)) dX2_extract_42 ⟨Nat.le_of_ble_eq_true rfl, Nat.le_of_ble_eq_true rfl⟩)) (fun r9 e9 => ?_)
          rw [e9]
          have hFc := va_free (wc := cRS h q1 q2 cA cB tf ff cw td an qb pa) hD hS hA [0, 1, 2] rfl
          refine va_calli (va_runV (As := [.ref y_5, .ref y_5, .int (bI false), .int (bI (R_nought vt_6 vf_7))]) (rest := []) ⟨hx, hb, hml, hown, hts⟩ (c_X2_goesOn l D ad h q1 q2 cA cB tf ff cw td an qb pa y_5 vt_6 vf_7 y_5 vt_6 vf_7 false (R_nought vt_6 vf_7) H.size) (cwV 4 hts gX2_extract_X2_goesOn rfl rfl rfl kV_X2_goesOn ⟨Nat.le_of_ble_eq_true rfl, Nat.le_of_ble_eq_true rfl⟩) ⟨MRB.blind, va_recv hK hP (ci := 1) (q0 := 0) rfl rfl, MRB.pre hK hP hD (vP_one hx_y_5 (vP_one hx_y_5 vP_nil)) (ap_one nx_y_5 (ap_one nx_y_5 ap_nil)) hE hS hFc⟩ rfl rfl hl.1 rfl (lv_room (Nat.le_of_ble_eq_true rfl)) dX2_extract_45 ⟨Nat.le_of_ble_eq_true rfl, Nat.le_of_ble_eq_true rfl⟩) hS (fun q _ h9 => hFc q h9) hFc (fun r9 v_9 t9 H locs ht hvm hw hB hz1 hk1 hS => ?_)
          obtain rfl := hw
          obtain ⟨otd_10, oan_11, e_12, hP, hD9⟩ := hB
          rw [ht] at hP
          have hD : va_D A (cRS h q1 q2 cA cB tf ff cw otd_10 oan_11 qb pa) := hD9.weaken (fun _ _ _ h => hFc _ h)
          have hx_y_5 := ro_keep hx_y_5 nx_y_5 hk1
          refine lv_if_eq (tgt := 76) hx hb dX2_extract_48 (by decide) (fun c_13 => ?_) (fun c_13 => ?_)
          · refine lv_aload_n hx hb dX2_extract_76 rfl (lv_at hl 1 rfl) ?_
            refine va_get (v := .int (bI oan_11)) (C := RX2) (T := TX2) (N := 7) hx hb hts in_X2 hown hK hP 0 rfl rfl 4 (by decide) w_4 (fun _ h9 => h9) rfl dX2_extract_77 ?_
            refine lv_if_eq (tgt := 107) hx hb dX2_extract_80 (by decide) (fun c_14 => ?_) (fun c_14 => ?_)
            · refine lv_aload_n hx hb dX2_extract_107 rfl (lv_at hl 1 rfl) ?_
              refine va_get (v := .int otd_10) (C := RX2) (T := TX2) (N := 7) hx hb hts in_X2 hown hK hP 0 rfl rfl 3 (by decide) w_6 (fun _ h9 => h9) rfl dX2_extract_108 ?_
              refine W.widen (k := 6) (n := 24) (Nat.le_of_ble_eq_true rfl) (Nat.le_of_ble_eq_true rfl) ?_
              have hw : R_extract tf ff cw td an ra rp rc = (otd_10, 0, tf, ff, otd_10, oan_11) := by unfold R_extract; rw [if_pos c_1, if_pos c_2, if_pos c_3, if_neg c_4, tup2_e e_8, tup3_e e_12, if_pos c_13, if_pos c_14]; try rfl
              exact vx_ret (W.iret hx hb hr (fun t9 ht hW => ⟨⟨_, otd_10, rfl, rfl, ⟨tf, ff, otd_10, oan_11, hw, by rw [ht]; exact hP, hD⟩⟩, hS.F ht⟩) hS.2.2 dX2_extract_111)
            · refine lv_aload_n hx hb dX2_extract_83 rfl (lv_at hl 1 rfl) ?_
              refine lv_iload_n hx hb dX2_extract_84 rfl (lv_at hl 3 rfl) ?_
              refine lv_aload hx hb dX2_extract_85 (lv_at hl 0 rfl) ?_
              refine lv_aload hx hb dX2_extract_87 (lv_at hl 0 rfl) ?_
              have hFc : ∀ q, va_A [] H.size q → A q := va_free (wc := []) hD hS hA [] rfl
              refine va_callr (va_runS (As := [.ref y_5, .ref y_5]) (rest := [.int rp, .ref h]) ⟨hx, hb, hml, hown, hts⟩ (c_X2_substitute l D ad y_5 vt_6 vf_7 y_5 vt_6 vf_7 H.size) (va_cwS 2 hts gX2_extract_X2_substitute rfl rfl rfl kS_X2_substitute ⟨Nat.le_of_ble_eq_true rfl, Nat.le_of_ble_eq_true rfl⟩) ⟨SCB.blind, SCB.pre hK (vP_one hx_y_5 (vP_one hx_y_5 vP_nil)) hE hS hFc⟩ rfl rfl hl.1 rfl (lv_room (Nat.le_of_ble_eq_true rfl)) dX2_extract_89 ⟨Nat.le_of_ble_eq_true rfl, Nat.le_of_ble_eq_true rfl⟩) hS (fun q _ h9 => hFc q h9) hFc (fun u9 y_15 t9 H locs ht hvm hw hB hz1 hk1 hS => ?_)
              obtain ⟨vt_16, vf_17, e_18, hx_y_15, nz_y_15⟩ := hB
              rw [ht] at hx_y_15
              have nx_y_15 : ap3 y_15 h q1 q2 := by
                rcases nz_y_15 with z | z | z
                · rw [z]; exact nx_y_5
                · rw [z]; exact nx_y_5
                · exact ap_new hP z
              have hP : va_P D vwCl (cRS h q1 q2 cA cB tf ff cw otd_10 oan_11 qb pa) H := ro_make hP hk1
              have hx_y_5 := ro_make hx_y_5 hk1
              have hFc := va_free (wc := cRS h q1 q2 cA cB tf ff cw otd_10 oan_11 qb pa) hD hS hA [0, 1, 2] rfl
              refine va_callv (va_runV (As := [.int rp, .ref y_15]) (rest := []) ⟨hx, hb, hml, hown, hts⟩ (c_X2_write l D ad h q1 q2 cA cB tf ff cw otd_10 oan_11 qb pa y_15 vt_16 vf_17 rp H.size (R_need_in c_2)) (cwV 2 hts gX2_extract_X2_write rfl rfl rfl kV_X2_write ⟨Nat.le_of_ble_eq_true rfl, Nat.le_of_ble_eq_true rfl⟩) ⟨MRB.blind, va_recv hK hP (ci := 1) (q0 := 0) rfl rfl, MRB.pre hK hP hD (vP_one hx_y_15 vP_nil) (ap_one nx_y_15 ap_nil) hE hS hFc⟩ rfl rfl hl.1 rfl (lv_room (Nat.le_of_ble_eq_true rfl)) dX2_extract_92 ⟨Nat.le_of_ble_eq_true rfl, Nat.le_of_ble_eq_true rfl⟩) hS (fun q _ h9 => hFc q h9) hFc (fun u9 t9 H locs ht hvm hw hB hz1 hk1 hS => ?_)
              obtain ⟨otf_19, off_20, e_21, hP, hD9⟩ := hB
              rw [ht] at hP
              have hD : va_D A (cRS h q1 q2 cA cB otf_19 off_20 cw otd_10 oan_11 qb pa) := hD9.weaken (fun _ _ _ h => hFc _ h)
              have hx_y_5 := ro_keep hx_y_5 nx_y_5 hk1
              have hx_y_15 := ro_keep hx_y_15 nx_y_15 hk1
              refine lv_aload_n hx hb dX2_extract_95 rfl (lv_at hl 1 rfl) ?_
              refine lv_iload_n hx hb dX2_extract_96 rfl (lv_at hl 4 rfl) ?_
              refine lv_aload hx hb dX2_extract_97 (lv_at hl 0 rfl) ?_
              refine lv_aload hx hb dX2_extract_99 (lv_at hl 0 rfl) ?_
              have hFc : ∀ q, va_A [] H.size q → A q := va_free (wc := []) hD hS hA [] rfl
              refine va_callr (va_runS (As := [.ref y_5, .ref y_5]) (rest := [.int rc, .ref h]) ⟨hx, hb, hml, hown, hts⟩ (c_X2_substitute l D ad y_5 vt_6 vf_7 y_5 vt_6 vf_7 H.size) (va_cwS 2 hts gX2_extract_X2_substitute rfl rfl rfl kS_X2_substitute ⟨Nat.le_of_ble_eq_true rfl, Nat.le_of_ble_eq_true rfl⟩) ⟨SCB.blind, SCB.pre hK (vP_one hx_y_5 (vP_one hx_y_5 vP_nil)) hE hS hFc⟩ rfl rfl hl.1 rfl (lv_room (Nat.le_of_ble_eq_true rfl)) dX2_extract_101 ⟨Nat.le_of_ble_eq_true rfl, Nat.le_of_ble_eq_true rfl⟩) hS (fun q _ h9 => hFc q h9) hFc (fun u9 y_22 t9 H locs ht hvm hw hB hz1 hk1 hS => ?_)
              obtain ⟨vt_23, vf_24, e_25, hx_y_22, nz_y_22⟩ := hB
              rw [ht] at hx_y_22
              have nx_y_22 : ap3 y_22 h q1 q2 := by
                rcases nz_y_22 with z | z | z
                · rw [z]; exact nx_y_5
                · rw [z]; exact nx_y_5
                · exact ap_new hP z
              have hP : va_P D vwCl (cRS h q1 q2 cA cB otf_19 off_20 cw otd_10 oan_11 qb pa) H := ro_make hP hk1
              have hx_y_5 := ro_make hx_y_5 hk1
              have hx_y_15 := ro_make hx_y_15 hk1
              have hFc := va_free (wc := cRS h q1 q2 cA cB otf_19 off_20 cw otd_10 oan_11 qb pa) hD hS hA [0, 1, 2] rfl
              refine va_callv (va_runV (As := [.int rc, .ref y_22]) (rest := []) ⟨hx, hb, hml, hown, hts⟩ (c_X2_write l D ad h q1 q2 cA cB otf_19 off_20 cw otd_10 oan_11 qb pa y_22 vt_23 vf_24 rc H.size (R_need_in c_3)) (cwV 2 hts gX2_extract_X2_write rfl rfl rfl kV_X2_write ⟨Nat.le_of_ble_eq_true rfl, Nat.le_of_ble_eq_true rfl⟩) ⟨MRB.blind, va_recv hK hP (ci := 1) (q0 := 0) rfl rfl, MRB.pre hK hP hD (vP_one hx_y_22 vP_nil) (ap_one nx_y_22 ap_nil) hE hS hFc⟩ rfl rfl hl.1 rfl (lv_room (Nat.le_of_ble_eq_true rfl)) dX2_extract_104 ⟨Nat.le_of_ble_eq_true rfl, Nat.le_of_ble_eq_true rfl⟩) hS (fun q _ h9 => hFc q h9) hFc (fun u9 t9 H locs ht hvm hw hB hz1 hk1 hS => ?_)
              obtain ⟨otf_26, off_27, e_28, hP, hD9⟩ := hB
              rw [ht] at hP
              have hD : va_D A (cRS h q1 q2 cA cB otf_26 off_27 cw otd_10 oan_11 qb pa) := hD9.weaken (fun _ _ _ h => hFc _ h)
              have hx_y_5 := ro_keep hx_y_5 nx_y_5 hk1
              have hx_y_15 := ro_keep hx_y_15 nx_y_15 hk1
              have hx_y_22 := ro_keep hx_y_22 nx_y_22 hk1
              refine lv_aload_n hx hb dX2_extract_107 rfl (lv_at hl 1 rfl) ?_
              refine va_get (v := .int otd_10) (C := RX2) (T := TX2) (N := 7) hx hb hts in_X2 hown hK hP 0 rfl rfl 3 (by decide) w_6 (fun _ h9 => h9) rfl dX2_extract_108 ?_
              have hw : R_extract tf ff cw td an ra rp rc = (otd_10, 0, otf_26, off_27, otd_10, oan_11) := by unfold R_extract; rw [if_pos c_1, if_pos c_2, if_pos c_3, if_neg c_4, tup2_e e_8, tup3_e e_12, if_pos c_13, if_neg c_14, tup2_e e_18, tup2_e e_21, tup2_e e_25, tup2_e e_28]; try rfl
              exact vx_ret (W.iret hx hb hr (fun t9 ht hW => ⟨⟨_, otd_10, rfl, rfl, ⟨otf_26, off_27, otd_10, oan_11, hw, by rw [ht]; exact hP, hD⟩⟩, hS.F ht⟩) hS.2.2 dX2_extract_111)
          · refine lv_aload_n hx hb dX2_extract_51 rfl (lv_at hl 1 rfl) ?_
            refine lv_iload_n hx hb dX2_extract_52 rfl (lv_at hl 3 rfl) ?_
            refine lv_aload_n hx hb dX2_extract_53 rfl (lv_at hl 1 rfl) ?_
            refine lv_aload hx hb dX2_extract_54 (lv_at hl 0 rfl) ?_
            have hFc := va_free (wc := cRS h q1 q2 cA cB tf ff cw otd_10 oan_11 qb pa) hD hS hA [0, 1, 2] rfl
            refine va_callr (va_runV (As := [.ref y_5]) (rest := [.int rp, .ref h]) ⟨hx, hb, hml, hown, hts⟩ (c_X2_powerOf l D ad h q1 q2 cA cB tf ff cw otd_10 oan_11 qb pa y_5 vt_6 vf_7 H.size) (cwV 1 hts gX2_extract_X2_powerOf rfl rfl rfl kV_X2_powerOf ⟨Nat.le_of_ble_eq_true rfl, Nat.le_of_ble_eq_true rfl⟩) ⟨MRB.blind, va_recv hK hP (ci := 1) (q0 := 0) rfl rfl, MRB.pre hK hP hD (vP_one hx_y_5 vP_nil) (ap_one nx_y_5 ap_nil) hE hS hFc⟩ rfl rfl hl.1 rfl (lv_room (Nat.le_of_ble_eq_true rfl)) dX2_extract_56 ⟨Nat.le_of_ble_eq_true rfl, Nat.le_of_ble_eq_true rfl⟩) hS (fun q _ h9 => hFc q h9) hFc (fun u9 y_29 t9 H locs ht hvm hw hB hz1 hk1 hS => ?_)
            obtain ⟨vt_30, vf_31, otd_32, e_33, hP, hD9, hx_y_29, nx_y_29⟩ := hB
            rw [ht] at hP hx_y_29
            have hD : va_D A (cRS h q1 q2 cA cB tf ff cw otd_32 oan_11 qb pa) := hD9.weaken (fun _ _ _ h => hFc _ h)
            have hx_y_5 := ro_keep hx_y_5 nx_y_5 hk1
            have hFc := va_free (wc := cRS h q1 q2 cA cB tf ff cw otd_32 oan_11 qb pa) hD hS hA [0, 1, 2] rfl
            refine va_callv (va_runV (As := [.int rp, .ref y_29]) (rest := []) ⟨hx, hb, hml, hown, hts⟩ (c_X2_write l D ad h q1 q2 cA cB tf ff cw otd_32 oan_11 qb pa y_29 vt_30 vf_31 rp H.size (R_need_in c_2)) (cwV 2 hts gX2_extract_X2_write rfl rfl rfl kV_X2_write ⟨Nat.le_of_ble_eq_true rfl, Nat.le_of_ble_eq_true rfl⟩) ⟨MRB.blind, va_recv hK hP (ci := 1) (q0 := 0) rfl rfl, MRB.pre hK hP hD (vP_one hx_y_29 vP_nil) (ap_one nx_y_29 ap_nil) hE hS hFc⟩ rfl rfl hl.1 rfl (lv_room (Nat.le_of_ble_eq_true rfl)) dX2_extract_59 ⟨Nat.le_of_ble_eq_true rfl, Nat.le_of_ble_eq_true rfl⟩) hS (fun q _ h9 => hFc q h9) hFc (fun u9 t9 H locs ht hvm hw hB hz1 hk1 hS => ?_)
            obtain ⟨otf_34, off_35, e_36, hP, hD9⟩ := hB
            rw [ht] at hP
            have hD : va_D A (cRS h q1 q2 cA cB otf_34 off_35 cw otd_32 oan_11 qb pa) := hD9.weaken (fun _ _ _ h => hFc _ h)
            have hx_y_5 := ro_keep hx_y_5 nx_y_5 hk1
            have hx_y_29 := ro_keep hx_y_29 nx_y_29 hk1
            refine lv_aload_n hx hb dX2_extract_62 rfl (lv_at hl 1 rfl) ?_
            refine lv_iload_n hx hb dX2_extract_63 rfl (lv_at hl 4 rfl) ?_
            refine lv_aload_n hx hb dX2_extract_64 rfl (lv_at hl 1 rfl) ?_
            refine lv_aload hx hb dX2_extract_65 (lv_at hl 0 rfl) ?_
            have hFc := va_free (wc := cRS h q1 q2 cA cB otf_34 off_35 cw otd_32 oan_11 qb pa) hD hS hA [0, 1, 2] rfl
            refine va_callr (va_runV (As := [.ref y_5]) (rest := [.int rc, .ref h]) ⟨hx, hb, hml, hown, hts⟩ (c_X2_fractionOf l D ad h q1 q2 cA cB otf_34 off_35 cw otd_32 oan_11 qb pa y_5 vt_6 vf_7 H.size) (cwV 1 hts gX2_extract_X2_fractionOf rfl rfl rfl kV_X2_fractionOf ⟨Nat.le_of_ble_eq_true rfl, Nat.le_of_ble_eq_true rfl⟩) ⟨MRB.blind, va_recv hK hP (ci := 1) (q0 := 0) rfl rfl, MRB.pre hK hP hD (vP_one hx_y_5 vP_nil) (ap_one nx_y_5 ap_nil) hE hS hFc⟩ rfl rfl hl.1 rfl (lv_room (Nat.le_of_ble_eq_true rfl)) dX2_extract_67 ⟨Nat.le_of_ble_eq_true rfl, Nat.le_of_ble_eq_true rfl⟩) hS (fun q _ h9 => hFc q h9) hFc (fun u9 y_37 t9 H locs ht hvm hw hB hz1 hk1 hS => ?_)
            obtain ⟨vt_38, vf_39, otd_40, e_41, hP, hD9, hx_y_37, nx_y_37⟩ := hB
            rw [ht] at hP hx_y_37
            have hD : va_D A (cRS h q1 q2 cA cB otf_34 off_35 cw otd_40 oan_11 qb pa) := hD9.weaken (fun _ _ _ h => hFc _ h)
            have hx_y_5 := ro_keep hx_y_5 nx_y_5 hk1
            have hx_y_29 := ro_keep hx_y_29 nx_y_29 hk1
            have hFc := va_free (wc := cRS h q1 q2 cA cB otf_34 off_35 cw otd_40 oan_11 qb pa) hD hS hA [0, 1, 2] rfl
            refine va_callv (va_runV (As := [.int rc, .ref y_37]) (rest := []) ⟨hx, hb, hml, hown, hts⟩ (c_X2_write l D ad h q1 q2 cA cB otf_34 off_35 cw otd_40 oan_11 qb pa y_37 vt_38 vf_39 rc H.size (R_need_in c_3)) (cwV 2 hts gX2_extract_X2_write rfl rfl rfl kV_X2_write ⟨Nat.le_of_ble_eq_true rfl, Nat.le_of_ble_eq_true rfl⟩) ⟨MRB.blind, va_recv hK hP (ci := 1) (q0 := 0) rfl rfl, MRB.pre hK hP hD (vP_one hx_y_37 vP_nil) (ap_one nx_y_37 ap_nil) hE hS hFc⟩ rfl rfl hl.1 rfl (lv_room (Nat.le_of_ble_eq_true rfl)) dX2_extract_70 ⟨Nat.le_of_ble_eq_true rfl, Nat.le_of_ble_eq_true rfl⟩) hS (fun q _ h9 => hFc q h9) hFc (fun u9 t9 H locs ht hvm hw hB hz1 hk1 hS => ?_)
            obtain ⟨otf_42, off_43, e_44, hP, hD9⟩ := hB
            rw [ht] at hP
            have hD : va_D A (cRS h q1 q2 cA cB otf_42 off_43 cw otd_40 oan_11 qb pa) := hD9.weaken (fun _ _ _ h => hFc _ h)
            have hx_y_5 := ro_keep hx_y_5 nx_y_5 hk1
            have hx_y_29 := ro_keep hx_y_29 nx_y_29 hk1
            have hx_y_37 := ro_keep hx_y_37 nx_y_37 hk1
            refine lv_goto (tgt := 107) hx hb dX2_extract_73 (by decide) ?_
            refine lv_aload_n hx hb dX2_extract_107 rfl (lv_at hl 1 rfl) ?_
            refine va_get (v := .int otd_40) (C := RX2) (T := TX2) (N := 7) hx hb hts in_X2 hown hK hP 0 rfl rfl 3 (by decide) w_6 (fun _ h9 => h9) rfl dX2_extract_108 ?_
            have hw : R_extract tf ff cw td an ra rp rc = (otd_40, 0, otf_42, off_43, otd_40, oan_11) := by unfold R_extract; rw [if_pos c_1, if_pos c_2, if_pos c_3, if_neg c_4, tup2_e e_8, tup3_e e_12, if_neg c_13, tup3_e e_33, tup2_e e_36, tup3_e e_41, tup2_e e_44]; try rfl
            exact vx_ret (W.iret hx hb hr (fun t9 ht hW => ⟨⟨_, otd_40, rfl, rfl, ⟨otf_42, off_43, otd_40, oan_11, hw, by rw [ht]; exact hP, hD⟩⟩, hS.F ht⟩) hS.2.2 dX2_extract_111)
        · obtain ⟨sa9, hst9⟩ := hE.2.2.2.1 _ (List.mem_of_getElem? (i := 6) rfl)
          have hw : R_extract tf ff cw td an ra rp rc = (0, 2, tf, ff, td, an) := by unfold R_extract; rw [if_pos c_1, if_pos c_2, if_pos c_3, if_pos c_4]; try rfl
          exact vx_throwS hx hb hl9 (names := xNm) hown gf_xIAE gf_Nm w_7 w_8 hst9 (vx_hat (B := .castable xIAE xIAE :: decW) (fun w h => hts w (List.mem_cons_of_mem _ (List.mem_append_left _ (List.mem_append_right _ h)))) gb_xIAE (vx_c (va_Nw.use rfl (hE.2.2.1 (.castable xIAE xIAE) (by decide))) (vx_c (va_Nw.use rfl (hDW _ (List.mem_of_getElem? (i := 0) rfl))) (vx_c (va_Nw.use rfl (hDW _ (List.mem_of_getElem? (i := 1) rfl))) (vx_c (va_Nw.use rfl (hDW _ (List.mem_of_getElem? (i := 2) rfl))) vx_n))))) gx_xIAE hE.2.2.2.2.1 hE.2.2.2.2.2.1 hS (hl.1.trans hml.symm) dX2_extract_17 dX2_extract_20 dX2_extract_21 dX2_extract_23 dX2_extract_26 (fun x h => (htb x h).elim) (Nat.le_of_ble_eq_true rfl) (Nat.le_of_ble_eq_true rfl) (Nat.le_of_ble_eq_true rfl) (Nat.le_of_ble_eq_true rfl) hlocks (fun t9 ha h1 h2 => ⟨(), trivial, ⟨2, hw, (Or.inr ⟨rfl, rfl⟩), hP.kept (fun k q hk => h2 q.1 (hP k q hk).lt)⟩, ⟨Nat.le_trans hS.1 h1, fun q g1 g2 => (h2 q (Nat.lt_of_lt_of_le g1 hS.1)).trans (hS.2.1 q g1 g2)⟩⟩) hS.2.2 (Nat.le_of_ble_eq_true rfl) (Nat.le_of_ble_eq_true rfl)
def R_remainder (tf : Nat → Int32) (ff : Nat → Int64) (cw : Int32) (td : Int32) (an : Bool) (qb : Int32) (pa : Bool) (ra : Int32) (rb : Int32) (rc : Int32) : Int32 × Int32 × (Nat → Int32) × (Nat → Int64) × Int32 × Bool × Int32 × Bool :=
  if R_need ra = true then (if R_need rb = true then (if R_need rc = true then (tup2 ((R_read (tf ra.toNatClampNeg) (ff ra.toNatClampNeg))) (fun vt_5 vf_6 =>
          tup2 ((R_read (tf rb.toNatClampNeg) (ff rb.toNatClampNeg))) (fun vt_9 vf_10 =>
            tup3 ((R_goesOn cw vt_5 vf_6 vt_9 vf_10 (if bI (R_isOf vt_5 vf_6 4) = 0 then (if bI (R_nought vt_9 vf_10) = 0 then (if bI (R_isOf vt_9 vf_10 2) = 0 then false else true) else true) else true) false)) (fun v_15 otd_16 oan_17 =>
              if bI v_15 = 0 then (if bI oan_17 = 0 then (otd_16, 0, tf, ff, otd_16, oan_17, qb, pa)
                else (tup2 ((R_subst vt_5 vf_6 vt_9 vf_10)) (fun vt_22 vf_23 =>
                    tup2 ((R_write tf ff rc vt_22 vf_23)) (fun otf_25 off_26 =>
                      (otd_16, 0, otf_25, off_26, otd_16, oan_17, qb, pa)))))
              else (tup5 ((R_leftOver cw otd_16 vt_5 vf_6 vt_9 vf_10)) (fun vt_29 vf_30 otd_31 oqb_32 opa_33 =>
                  tup2 ((R_write tf ff rc vt_29 vf_30)) (fun otf_35 off_36 =>
                    (otd_31, 0, otf_35, off_36, otd_31, oan_17, oqb_32, opa_33))))))))
      else (0, 1, tf, ff, td, an, qb, pa))
    else (0, 1, tf, ff, td, an, qb, pa))
  else (0, 1, tf, ff, td, an, qb, pa)
theorem kS_X2_remainder : yX2_remainder.cls ≠ "java/lang/invoke/MethodHandle" ∧ yX2_remainder.cls ≠ "java/lang/invoke/VarHandle" ∧ (parseMethodDescriptor yX2_remainder.desc).map (fun d => d.parameters.length) = some 3 := by decide +kernel
theorem kV_X2_remainder : yX2_remainder.cls = RX2 ∧ yX2_remainder.cls ≠ "java/lang/invoke/MethodHandle" ∧ yX2_remainder.cls ≠ "java/lang/invoke/VarHandle" ∧ (parseMethodDescriptor yX2_remainder.desc).map (fun d => d.parameters.length) = some 3 := ⟨rfl, kS_X2_remainder⟩
set_option maxHeartbeats 4000000 in
set_option maxRecDepth 100000 in
theorem c_X2_remainder (l : Launch) (hl9 : l.stackTraces = false) (D : va_G) (ad : Nat → Nat) (h : Nat) (q1 : Nat) (q2 : Nat) (cA : ClassId) (cB : ClassId) (tf : Nat → Int32) (ff : Nat → Int64) (cw : Int32) (td : Int32) (an : Bool) (qb : Int32) (pa : Bool) (ra : Int32) (rb : Int32) (rc : Int32) (sz : Nat) : vx_Met l yX2_remainder wsX2_remainder ({ frames := 8, cells := 6, slots := 24, locals := 208 } : Room) (va_Pc [.ref h, .int ra, .int rb, .int rc] (TXB (MRB D ad h q1 q2 (tRS cA cB) (cRS h q1 q2 cA cB tf ff cw td an qb pa) [] sz))) (va_Qi (fun (r u : Int32) => r = u) (fun u t => ∃ (w_tf : Nat → Int32) (w_ff : Nat → Int64) (w_td : Int32) (w_an : Bool) (w_qb : Int32) (w_pa : Bool), R_remainder tf ff cw td an qb pa ra rb rc = (u, 0, w_tf, w_ff, w_td, w_an, w_qb, w_pa) ∧ va_P D vwCl (cRS h q1 q2 cA cB w_tf w_ff cw w_td w_an w_qb w_pa) t.heap ∧ va_D (va_A (cRS h q1 q2 cA cB tf ff cw td an qb pa) sz) (cRS h q1 q2 cA cB w_tf w_ff cw w_td w_an w_qb w_pa)) (va_A (cRS h q1 q2 cA cB tf ff cw td an qb pa) sz)) (vx_X (fun _ : Unit => True) (fun E _ t => ∃ k : Int32, R_remainder tf ff cw td an qb pa ra rb rc = (0, k, tf, ff, td, an, qb, pa) ∧ (E = xIOB ∧ k = 1) ∧ va_P D vwCl (cRS h q1 q2 cA cB tf ff cw td an qb pa) t.heap) (va_A (cRS h q1 q2 cA cB tf ff cw td an qb pa) sz)) 6 24 (va_A (cRS h q1 q2 cA cB tf ff cw td an qb pa) sz) := by
  refine vx_ofW (cc := cX2_remainder) (maxL := 7) (ret := (some .int)) (by decide) rfl ?_
  intro p e s m args below meth c s₁ B hml htb hv
  obtain ⟨rfl, ⟨hsz, hP, hK, hD0, hR0, hRp, hE⟩, hDW⟩ := hv
  have hx := B.exec
  have hb := B.bytes
  have hr := B.returns
  have hts := atoms_spec (ws := wsX2_remainder) B.pre
  have hown : s.vm.findClass RX2 = some m.cls := findClass_of_methodNamed B.named
  have hlocks := B.notSynchronized
  have w_1 := hts (.fieldLink RX2 106 "RealSteps$Kind" "INFINITE" "LRealSteps$Kind;") (by decide +kernel)
  have w_2 := hts (.initialized RX1) (by decide +kernel)
  have w_3 := hts (.instanceMethod yX1_isOf) (by decide +kernel)
  have w_4 := hts (.selects RX1 yX1_isOf yX1_isOf) (by decide +kernel)
  have w_5 := hts (.instanceMethod yX1_isNought) (by decide +kernel)
  have w_6 := hts (.selects RX1 yX1_isNought yX1_isNought) (by decide +kernel)
  have w_7 := hts (.fieldLink RX2 116 "RealSteps$Kind" "UNNORMAL" "LRealSteps$Kind;") (by decide +kernel)
  have w_8 := hts (.fieldLink RX2 24 "RealSteps" "answered" "Z") (by decide +kernel)
  have in_X2 : ∀ w ∈ wsX20, w ∈ wsX2_remainder := by decide +kernel
  have w_10 := hts (.fieldLink RX2 21 "RealSteps" "toldBits" "I") (by decide +kernel)
  subst hsz
  have hD := hD0.self (sz := s.heap.size)
  have hRA := rs_A hR0 hRp (e1 := .inr (1, [.ref q1, .ref q2, .int cw, .int td, .int (bI an), .int qb, .int (bI pa)])) (e2 := .inl (cA, 8, .inl tf)) (e3 := .inl (cB, 8, .inr (.inl ff)))
  generalize hAe : va_A (cRS h q1 q2 cA cB tf ff cw td an qb pa) s.heap.size = A at hD hE hRA ⊢
  have hA : ∀ q : Nat, s.heap.size ≤ q → A q := fun q h => by rw [← hAe]; exact Or.inr h
  have hS : va_S A s.heap s.heap [] := va_S.rf
  have hP : va_P D vwCl (cRS h q1 q2 cA cB tf ff cw td an qb pa) s.heap := hP
  have hl := lv_entry ([.ref h, .int ra, .int rb, .int rc]) (n := 7) (Nat.le_of_ble_eq_true rfl)
  rw [lg_entry_eq]
  generalize (lg_sl ([.ref h, .int ra, .int rb, .int rc]) ++ List.replicate (7 - (lg_sl ([.ref h, .int ra, .int rb, .int rc])).length) Slot.unset).toArray = ls at hl ⊢
  have hl : lv_has ls 7 [(0, .ref h), (1, .int ra), (2, .int rb), (3, .int rc)] := hl
  refine lv_iload_n hx hb dX2_remainder_0 rfl (lv_at hl 1 rfl) ?_
  have hFc : ∀ q, va_A [] s.heap.size q → A q := va_free (wc := []) hD hS hA [] rfl
  refine vx_callv (vx_runS (As := [.int ra]) (rest := []) ⟨hx, hb, hml, hown, hts⟩ (c_X2_needRegister l hl9 D ad ra s.heap.size) (va_cwS 1 hts gX2_remainder_X2_needRegister rfl rfl rfl kS_X2_needRegister ⟨Nat.le_of_ble_eq_true rfl, Nat.le_of_ble_eq_true rfl⟩) ⟨TXB.blind SCB.blind, TXB.pre (SCB.pre hK vP_nil hE hS hFc) hDW⟩ rfl rfl hl.1 rfl (lv_room (Nat.le_of_ble_eq_true rfl)) dX2_remainder_1 ⟨Nat.le_of_ble_eq_true rfl, Nat.le_of_ble_eq_true rfl⟩) hS (fun q _ h9 => hFc q h9) hFc (fun q _ h9 => hFc q h9) (fun E9 ce9 q9 u9 t9 H9 locs9 ht hvm c_1 hB hz1 hk1 hS9 hce9 hcv9 hcl9 => ?_) (fun u9 t9 H locs ht hvm c_1 hB hz1 hk1 hS => ?_)
  · have hw : R_remainder tf ff cw td an qb pa ra rb rc = (0, 1, tf, ff, td, an, qb, pa) := by unfold R_remainder; rw [if_neg c_1]; try rfl
    exact vx_out (fun x h => (htb x h).elim) hlocks hce9 hcv9 hcl9 (fun t9 ht ha => ⟨(), trivial, ⟨1, hw, ⟨hB, rfl⟩, by rw [ht]; exact ro_make hP hk1⟩, hS9.F ht⟩) hS9.2.2 (Nat.le_of_ble_eq_true rfl) (Nat.le_of_ble_eq_true rfl)
  · have hP : va_P D vwCl (cRS h q1 q2 cA cB tf ff cw td an qb pa) H := ro_make hP hk1
    refine lv_iload_n hx hb dX2_remainder_4 rfl (lv_at hl 2 rfl) ?_
    have hFc : ∀ q, va_A [] H.size q → A q := va_free (wc := []) hD hS hA [] rfl
    refine vx_callv (vx_runS (As := [.int rb]) (rest := []) ⟨hx, hb, hml, hown, hts⟩ (c_X2_needRegister l hl9 D ad rb H.size) (va_cwS 1 hts gX2_remainder_X2_needRegister rfl rfl rfl kS_X2_needRegister ⟨Nat.le_of_ble_eq_true rfl, Nat.le_of_ble_eq_true rfl⟩) ⟨TXB.blind SCB.blind, TXB.pre (SCB.pre hK vP_nil hE hS hFc) hDW⟩ rfl rfl hl.1 rfl (lv_room (Nat.le_of_ble_eq_true rfl)) dX2_remainder_5 ⟨Nat.le_of_ble_eq_true rfl, Nat.le_of_ble_eq_true rfl⟩) hS (fun q _ h9 => hFc q h9) hFc (fun q _ h9 => hFc q h9) (fun E9 ce9 q9 u9 t9 H9 locs9 ht hvm c_2 hB hz1 hk1 hS9 hce9 hcv9 hcl9 => ?_) (fun u9 t9 H locs ht hvm c_2 hB hz1 hk1 hS => ?_)
    · have hw : R_remainder tf ff cw td an qb pa ra rb rc = (0, 1, tf, ff, td, an, qb, pa) := by unfold R_remainder; rw [if_pos c_1, if_neg c_2]; try rfl
      exact vx_out (fun x h => (htb x h).elim) hlocks hce9 hcv9 hcl9 (fun t9 ht ha => ⟨(), trivial, ⟨1, hw, ⟨hB, rfl⟩, by rw [ht]; exact ro_make hP hk1⟩, hS9.F ht⟩) hS9.2.2 (Nat.le_of_ble_eq_true rfl) (Nat.le_of_ble_eq_true rfl)
    · have hP : va_P D vwCl (cRS h q1 q2 cA cB tf ff cw td an qb pa) H := ro_make hP hk1
      refine lv_iload_n hx hb dX2_remainder_8 rfl (lv_at hl 3 rfl) ?_
      have hFc : ∀ q, va_A [] H.size q → A q := va_free (wc := []) hD hS hA [] rfl
      refine vx_callv (vx_runS (As := [.int rc]) (rest := []) ⟨hx, hb, hml, hown, hts⟩ (c_X2_needRegister l hl9 D ad rc H.size) (va_cwS 1 hts gX2_remainder_X2_needRegister rfl rfl rfl kS_X2_needRegister ⟨Nat.le_of_ble_eq_true rfl, Nat.le_of_ble_eq_true rfl⟩) ⟨TXB.blind SCB.blind, TXB.pre (SCB.pre hK vP_nil hE hS hFc) hDW⟩ rfl rfl hl.1 rfl (lv_room (Nat.le_of_ble_eq_true rfl)) dX2_remainder_9 ⟨Nat.le_of_ble_eq_true rfl, Nat.le_of_ble_eq_true rfl⟩) hS (fun q _ h9 => hFc q h9) hFc (fun q _ h9 => hFc q h9) (fun E9 ce9 q9 u9 t9 H9 locs9 ht hvm c_3 hB hz1 hk1 hS9 hce9 hcv9 hcl9 => ?_) (fun u9 t9 H locs ht hvm c_3 hB hz1 hk1 hS => ?_)
      · have hw : R_remainder tf ff cw td an qb pa ra rb rc = (0, 1, tf, ff, td, an, qb, pa) := by unfold R_remainder; rw [if_pos c_1, if_pos c_2, if_neg c_3]; try rfl
        exact vx_out (fun x h => (htb x h).elim) hlocks hce9 hcv9 hcl9 (fun t9 ht ha => ⟨(), trivial, ⟨1, hw, ⟨hB, rfl⟩, by rw [ht]; exact ro_make hP hk1⟩, hS9.F ht⟩) hS9.2.2 (Nat.le_of_ble_eq_true rfl) (Nat.le_of_ble_eq_true rfl)
      · have hP : va_P D vwCl (cRS h q1 q2 cA cB tf ff cw td an qb pa) H := ro_make hP hk1
        refine lv_aload_n hx hb dX2_remainder_12 rfl (lv_at hl 0 rfl) ?_
        refine lv_iload_n hx hb dX2_remainder_13 rfl (lv_at hl 1 rfl) ?_
        have hFc := va_free (wc := cRS h q1 q2 cA cB tf ff cw td an qb pa) hD hS hA [0, 1, 2] rfl
        refine va_callr (va_runV (As := [.int ra]) (rest := []) ⟨hx, hb, hml, hown, hts⟩ (c_X2_read l D ad h q1 q2 cA cB tf ff cw td an qb pa ra H.size (R_need_in c_1)) (cwV 1 hts gX2_remainder_X2_read rfl rfl rfl kV_X2_read ⟨Nat.le_of_ble_eq_true rfl, Nat.le_of_ble_eq_true rfl⟩) ⟨MRB.blind, va_recv hK hP (ci := 1) (q0 := 0) rfl rfl, MRB.pre hK hP hD vP_nil ap_nil hE hS hFc⟩ rfl rfl hl.1 rfl (lv_room (Nat.le_of_ble_eq_true rfl)) dX2_remainder_14 ⟨Nat.le_of_ble_eq_true rfl, Nat.le_of_ble_eq_true rfl⟩) hS (fun q _ h9 => hFc q h9) hFc (fun u9 y_4 t9 H locs ht hvm hw hB hz1 hk1 hS => ?_)
        obtain ⟨vt_5, vf_6, e_7, hP, hD9, hx_y_4, nx_y_4⟩ := hB
        rw [ht] at hP hx_y_4
        have hD : va_D A (cRS h q1 q2 cA cB tf ff cw td an qb pa) := hD9.weaken (fun _ _ _ h => hFc _ h)
        refine lv_astore (lv' := [(4, .ref y_4), (0, .ref h), (1, .int ra), (2, .int rb), (3, .int rc)]) hx hb dX2_remainder_17 hl (by decide) rfl (fun ls hl => ?_)
        refine lv_aload_n hx hb dX2_remainder_19 rfl (lv_at hl 1 rfl) ?_
        refine lv_iload_n hx hb dX2_remainder_20 rfl (lv_at hl 3 rfl) ?_
        have hFc := va_free (wc := cRS h q1 q2 cA cB tf ff cw td an qb pa) hD hS hA [0, 1, 2] rfl
        refine va_callr (va_runV (As := [.int rb]) (rest := []) ⟨hx, hb, hml, hown, hts⟩ (c_X2_read l D ad h q1 q2 cA cB tf ff cw td an qb pa rb H.size (R_need_in c_2)) (cwV 1 hts gX2_remainder_X2_read rfl rfl rfl kV_X2_read ⟨Nat.le_of_ble_eq_true rfl, Nat.le_of_ble_eq_true rfl⟩) ⟨MRB.blind, va_recv hK hP (ci := 1) (q0 := 0) rfl rfl, MRB.pre hK hP hD vP_nil ap_nil hE hS hFc⟩ rfl rfl hl.1 rfl (lv_room (Nat.le_of_ble_eq_true rfl)) dX2_remainder_21 ⟨Nat.le_of_ble_eq_true rfl, Nat.le_of_ble_eq_true rfl⟩) hS (fun q _ h9 => hFc q h9) hFc (fun u9 y_8 t9 H locs ht hvm hw hB hz1 hk1 hS => ?_)
        obtain ⟨vt_9, vf_10, e_11, hP, hD9, hx_y_8, nx_y_8⟩ := hB
        rw [ht] at hP hx_y_8
        have hD : va_D A (cRS h q1 q2 cA cB tf ff cw td an qb pa) := hD9.weaken (fun _ _ _ h => hFc _ h)
        have hx_y_4 := ro_keep hx_y_4 nx_y_4 hk1
        refine lv_astore (lv' := [(5, .ref y_8), (4, .ref y_4), (0, .ref h), (1, .int ra), (2, .int rb), (3, .int rc)]) hx hb dX2_remainder_24 hl (by decide) rfl (fun ls hl => ?_)
        refine lv_aload hx hb dX2_remainder_26 (lv_at hl 1 rfl) ?_
        refine va_gets (v := .ref (ad 4)) hx hb (hE.1.1 4 (by decide)).1 hS hown w_1 (fun _ h9 => h9) dX2_remainder_28 ?_
        refine vp_callSi (va_cr (va_runVN (As := [.ref (ad 4)]) (rest := []) ⟨hx, hb, hml, hown, hts⟩ (c_X1_isOf l D ad y_4 vt_5 vf_6 4 (by decide)) ⟨va_cnB 1 hts gX2_remainder_X1_isOf_n112 rfl rfl rfl (hE.2.1 _ (List.mem_of_getElem? (i := 0) rfl)) w_2 kS_X1_isOf ⟨Nat.le_of_ble_eq_true rfl, Nat.le_of_ble_eq_true rfl⟩, w_3, w_4⟩ ⟨EB.blind, va_recv hK hx_y_4 (ci := 0) (q0 := 0) rfl rfl, EB.pre (hK.sub [] rfl) hx_y_4 hE hS⟩ rfl rfl hl.1 rfl (lv_room (Nat.le_of_ble_eq_true rfl)) dX2_remainder_31 ⟨Nat.le_of_ble_eq_true rfl, Nat.le_of_ble_eq_true rfl⟩)) (fun r9 e9 => ?_)
        rw [e9]
        refine q_cut (v := bI (if bI (R_isOf vt_5 vf_6 4) = 0 then (if bI (R_nought vt_9 vf_10) = 0 then (if bI (R_isOf vt_9 vf_10 2) = 0 then false else true) else true) else true)) (pcJ := 61) (rest := []) (fun J => ?_) ?_
        · refine lv_if_ne (tgt := 56) hx hb dX2_remainder_34 (by decide) (fun c_12 => ?_) (fun c_12 => ?_)
          · refine lv_iconst (v := 1) hx hb dX2_remainder_56 (by decide) ?_
            refine lv_goto (tgt := 61) hx hb dX2_remainder_57 (by decide) ?_
            exact J _ (by rw [if_neg c_12]; try rfl)
          · refine lv_aload hx hb dX2_remainder_37 (lv_at hl 0 rfl) ?_
            refine vp_callSi (va_cr (va_runVN (As := []) (rest := []) ⟨hx, hb, hml, hown, hts⟩ (c_X1_isNought l D ad y_8 vt_9 vf_10) ⟨va_cnB 0 hts gX2_remainder_X1_isNought_n96 rfl rfl rfl (hE.2.1 _ (List.mem_of_getElem? (i := 8) rfl)) w_2 kS_X1_isNought ⟨Nat.le_of_ble_eq_true rfl, Nat.le_of_ble_eq_true rfl⟩, w_5, w_6⟩ ⟨EB.blind, va_recv hK hx_y_8 (ci := 0) (q0 := 0) rfl rfl, EB.pre (hK.sub [] rfl) hx_y_8 hE hS⟩ rfl rfl hl.1 rfl (lv_room (Nat.le_of_ble_eq_true rfl)) dX2_remainder_39 ⟨Nat.le_of_ble_eq_true rfl, Nat.le_of_ble_eq_true rfl⟩)) (fun r9 e9 => ?_)
            rw [e9]
            refine lv_if_ne (tgt := 56) hx hb dX2_remainder_42 (by decide) (fun c_13 => ?_) (fun c_13 => ?_)
            · refine lv_iconst (v := 1) hx hb dX2_remainder_56 (by decide) ?_
              refine lv_goto (tgt := 61) hx hb dX2_remainder_57 (by decide) ?_
              exact J _ (by rw [if_pos c_12, if_neg c_13]; try rfl)
            · refine lv_aload hx hb dX2_remainder_45 (lv_at hl 0 rfl) ?_
              refine va_gets (v := .ref (ad 2)) hx hb (hE.1.1 2 (by decide)).1 hS hown w_7 (fun _ h9 => h9) dX2_remainder_47 ?_
              refine vp_callSi (va_cr (va_runVN (As := [.ref (ad 2)]) (rest := []) ⟨hx, hb, hml, hown, hts⟩ (c_X1_isOf l D ad y_8 vt_9 vf_10 2 (by decide)) ⟨va_cnB 1 hts gX2_remainder_X1_isOf_n112 rfl rfl rfl (hE.2.1 _ (List.mem_of_getElem? (i := 0) rfl)) w_2 kS_X1_isOf ⟨Nat.le_of_ble_eq_true rfl, Nat.le_of_ble_eq_true rfl⟩, w_3, w_4⟩ ⟨EB.blind, va_recv hK hx_y_8 (ci := 0) (q0 := 0) rfl rfl, EB.pre (hK.sub [] rfl) hx_y_8 hE hS⟩ rfl rfl hl.1 rfl (lv_room (Nat.le_of_ble_eq_true rfl)) dX2_remainder_50 ⟨Nat.le_of_ble_eq_true rfl, Nat.le_of_ble_eq_true rfl⟩)) (fun r9 e9 => ?_)
              rw [e9]
              refine lv_if_eq (tgt := 60) hx hb dX2_remainder_53 (by decide) (fun c_14 => ?_) (fun c_14 => ?_)
              · refine lv_iconst (v := 0) hx hb dX2_remainder_60 (by decide) ?_
                exact J _ (by rw [if_pos c_12, if_pos c_13, if_pos c_14]; try rfl)
              · refine lv_iconst (v := 1) hx hb dX2_remainder_56 (by decide) ?_
                refine lv_goto (tgt := 61) hx hb dX2_remainder_57 (by decide) ?_
                exact J _ (by rw [if_pos c_12, if_pos c_13, if_neg c_14]; try rfl)
        refine lv_istore (lv' := [(6, .int (bI (if bI (R_isOf vt_5 vf_6 4) = 0 then (if bI (R_nought vt_9 vf_10) = 0 then (if bI (R_isOf vt_9 vf_10 2) = 0 then false else true) else true) else true))), (5, .ref y_8), (4, .ref y_4), (0, .ref h), (1, .int ra), (2, .int rb), (3, .int rc)]) hx hb dX2_remainder_61 hl (by decide) rfl (fun ls hl => ?_)
        refine lv_aload_n hx hb dX2_remainder_63 rfl (lv_at hl 3 rfl) ?_
        refine lv_aload hx hb dX2_remainder_64 (lv_at hl 2 rfl) ?_
        refine lv_aload hx hb dX2_remainder_66 (lv_at hl 1 rfl) ?_
        refine lv_iload hx hb dX2_remainder_68 (lv_at hl 0 rfl) ?_
        refine lv_iconst (v := 0) hx hb dX2_remainder_70 (by decide) ?_
        have hFc := va_free (wc := cRS h q1 q2 cA cB tf ff cw td an qb pa) hD hS hA [0, 1, 2] rfl
        refine va_calli (va_runV (As := [.ref y_4, .ref y_8, .int (bI (if bI (R_isOf vt_5 vf_6 4) = 0 then (if bI (R_nought vt_9 vf_10) = 0 then (if bI (R_isOf vt_9 vf_10 2) = 0 then false else true) else true) else true)), .int (bI false)]) (rest := []) ⟨hx, hb, hml, hown, hts⟩ (c_X2_goesOn l D ad h q1 q2 cA cB tf ff cw td an qb pa y_4 vt_5 vf_6 y_8 vt_9 vf_10 (if bI (R_isOf vt_5 vf_6 4) = 0 then (if bI (R_nought vt_9 vf_10) = 0 then (if bI (R_isOf vt_9 vf_10 2) = 0 then false else true) else true) else true) false H.size) (cwV 4 hts gX2_remainder_X2_goesOn rfl rfl rfl kV_X2_goesOn ⟨Nat.le_of_ble_eq_true rfl, Nat.le_of_ble_eq_true rfl⟩) ⟨MRB.blind, va_recv hK hP (ci := 1) (q0 := 0) rfl rfl, MRB.pre hK hP hD (vP_one hx_y_4 (vP_one hx_y_8 vP_nil)) (ap_one nx_y_4 (ap_one nx_y_8 ap_nil)) hE hS hFc⟩ rfl rfl hl.1 rfl (lv_room (Nat.le_of_ble_eq_true rfl)) dX2_remainder_71 ⟨Nat.le_of_ble_eq_true rfl, Nat.le_of_ble_eq_true rfl⟩) hS (fun q _ h9 => hFc q h9) hFc (fun r9 v_15 t9 H locs ht hvm hw hB hz1 hk1 hS => ?_)
        obtain rfl := hw
        obtain ⟨otd_16, oan_17, e_18, hP, hD9⟩ := hB
        rw [ht] at hP
        have hD : va_D A (cRS h q1 q2 cA cB tf ff cw otd_16 oan_17 qb pa) := hD9.weaken (fun _ _ _ h => hFc _ h)
        have hx_y_4 := ro_keep hx_y_4 nx_y_4 hk1
        have hx_y_8 := ro_keep hx_y_8 nx_y_8 hk1
        refine lv_if_eq (tgt := 93) hx hb dX2_remainder_74 (by decide) (fun c_19 => ?_) (fun c_19 => ?_)
        · refine lv_aload_n hx hb dX2_remainder_93 rfl (lv_at hl 3 rfl) ?_
          refine va_get (v := .int (bI oan_17)) (C := RX2) (T := TX2) (N := 7) hx hb hts in_X2 hown hK hP 0 rfl rfl 4 (by decide) w_8 (fun _ h9 => h9) rfl dX2_remainder_94 ?_
          refine lv_if_eq (tgt := 112) hx hb dX2_remainder_97 (by decide) (fun c_20 => ?_) (fun c_20 => ?_)
          · refine lv_aload_n hx hb dX2_remainder_112 rfl (lv_at hl 3 rfl) ?_
            refine va_get (v := .int otd_16) (C := RX2) (T := TX2) (N := 7) hx hb hts in_X2 hown hK hP 0 rfl rfl 3 (by decide) w_10 (fun _ h9 => h9) rfl dX2_remainder_113 ?_
            refine W.widen (k := 6) (n := 24) (Nat.le_of_ble_eq_true rfl) (Nat.le_of_ble_eq_true rfl) ?_
            have hw : R_remainder tf ff cw td an qb pa ra rb rc = (otd_16, 0, tf, ff, otd_16, oan_17, qb, pa) := by unfold R_remainder; rw [if_pos c_1, if_pos c_2, if_pos c_3, tup2_e e_7, tup2_e e_11, tup3_e e_18, if_pos c_19, if_pos c_20]; try rfl
            exact vx_ret (W.iret hx hb hr (fun t9 ht hW => ⟨⟨_, otd_16, rfl, rfl, ⟨tf, ff, otd_16, oan_17, qb, pa, hw, by rw [ht]; exact hP, hD⟩⟩, hS.F ht⟩) hS.2.2 dX2_remainder_116)
          · refine lv_aload_n hx hb dX2_remainder_100 rfl (lv_at hl 3 rfl) ?_
            refine lv_iload_n hx hb dX2_remainder_101 rfl (lv_at hl 6 rfl) ?_
            refine lv_aload hx hb dX2_remainder_102 (lv_at hl 2 rfl) ?_
            refine lv_aload hx hb dX2_remainder_104 (lv_at hl 1 rfl) ?_
            have hFc : ∀ q, va_A [] H.size q → A q := va_free (wc := []) hD hS hA [] rfl
            refine va_callr (va_runS (As := [.ref y_4, .ref y_8]) (rest := [.int rc, .ref h]) ⟨hx, hb, hml, hown, hts⟩ (c_X2_substitute l D ad y_4 vt_5 vf_6 y_8 vt_9 vf_10 H.size) (va_cwS 2 hts gX2_remainder_X2_substitute rfl rfl rfl kS_X2_substitute ⟨Nat.le_of_ble_eq_true rfl, Nat.le_of_ble_eq_true rfl⟩) ⟨SCB.blind, SCB.pre hK (vP_one hx_y_4 (vP_one hx_y_8 vP_nil)) hE hS hFc⟩ rfl rfl hl.1 rfl (lv_room (Nat.le_of_ble_eq_true rfl)) dX2_remainder_106 ⟨Nat.le_of_ble_eq_true rfl, Nat.le_of_ble_eq_true rfl⟩) hS (fun q _ h9 => hFc q h9) hFc (fun u9 y_21 t9 H locs ht hvm hw hB hz1 hk1 hS => ?_)
            obtain ⟨vt_22, vf_23, e_24, hx_y_21, nz_y_21⟩ := hB
            rw [ht] at hx_y_21
            have nx_y_21 : ap3 y_21 h q1 q2 := by
              rcases nz_y_21 with z | z | z
              · rw [z]; exact nx_y_4
              · rw [z]; exact nx_y_8
              · exact ap_new hP z
            have hP : va_P D vwCl (cRS h q1 q2 cA cB tf ff cw otd_16 oan_17 qb pa) H := ro_make hP hk1
            have hx_y_4 := ro_make hx_y_4 hk1
            have hx_y_8 := ro_make hx_y_8 hk1
            have hFc := va_free (wc := cRS h q1 q2 cA cB tf ff cw otd_16 oan_17 qb pa) hD hS hA [0, 1, 2] rfl
            refine va_callv (va_runV (As := [.int rc, .ref y_21]) (rest := []) ⟨hx, hb, hml, hown, hts⟩ (c_X2_write l D ad h q1 q2 cA cB tf ff cw otd_16 oan_17 qb pa y_21 vt_22 vf_23 rc H.size (R_need_in c_3)) (cwV 2 hts gX2_remainder_X2_write rfl rfl rfl kV_X2_write ⟨Nat.le_of_ble_eq_true rfl, Nat.le_of_ble_eq_true rfl⟩) ⟨MRB.blind, va_recv hK hP (ci := 1) (q0 := 0) rfl rfl, MRB.pre hK hP hD (vP_one hx_y_21 vP_nil) (ap_one nx_y_21 ap_nil) hE hS hFc⟩ rfl rfl hl.1 rfl (lv_room (Nat.le_of_ble_eq_true rfl)) dX2_remainder_109 ⟨Nat.le_of_ble_eq_true rfl, Nat.le_of_ble_eq_true rfl⟩) hS (fun q _ h9 => hFc q h9) hFc (fun u9 t9 H locs ht hvm hw hB hz1 hk1 hS => ?_)
            obtain ⟨otf_25, off_26, e_27, hP, hD9⟩ := hB
            rw [ht] at hP
            have hD : va_D A (cRS h q1 q2 cA cB otf_25 off_26 cw otd_16 oan_17 qb pa) := hD9.weaken (fun _ _ _ h => hFc _ h)
            have hx_y_4 := ro_keep hx_y_4 nx_y_4 hk1
            have hx_y_8 := ro_keep hx_y_8 nx_y_8 hk1
            have hx_y_21 := ro_keep hx_y_21 nx_y_21 hk1
            refine lv_aload_n hx hb dX2_remainder_112 rfl (lv_at hl 3 rfl) ?_
            refine va_get (v := .int otd_16) (C := RX2) (T := TX2) (N := 7) hx hb hts in_X2 hown hK hP 0 rfl rfl 3 (by decide) w_10 (fun _ h9 => h9) rfl dX2_remainder_113 ?_
            have hw : R_remainder tf ff cw td an qb pa ra rb rc = (otd_16, 0, otf_25, off_26, otd_16, oan_17, qb, pa) := by unfold R_remainder; rw [if_pos c_1, if_pos c_2, if_pos c_3, tup2_e e_7, tup2_e e_11, tup3_e e_18, if_pos c_19, if_neg c_20, tup2_e e_24, tup2_e e_27]; try rfl
            exact vx_ret (W.iret hx hb hr (fun t9 ht hW => ⟨⟨_, otd_16, rfl, rfl, ⟨otf_25, off_26, otd_16, oan_17, qb, pa, hw, by rw [ht]; exact hP, hD⟩⟩, hS.F ht⟩) hS.2.2 dX2_remainder_116)
        · refine lv_aload_n hx hb dX2_remainder_77 rfl (lv_at hl 3 rfl) ?_
          refine lv_iload_n hx hb dX2_remainder_78 rfl (lv_at hl 6 rfl) ?_
          refine lv_aload_n hx hb dX2_remainder_79 rfl (lv_at hl 3 rfl) ?_
          refine lv_aload hx hb dX2_remainder_80 (lv_at hl 2 rfl) ?_
          refine lv_aload hx hb dX2_remainder_82 (lv_at hl 1 rfl) ?_
          have hFc := va_free (wc := cRS h q1 q2 cA cB tf ff cw otd_16 oan_17 qb pa) hD hS hA [0, 1, 2] rfl
          refine va_callr (va_runV (As := [.ref y_4, .ref y_8]) (rest := [.int rc, .ref h]) ⟨hx, hb, hml, hown, hts⟩ (c_X2_leftOver l D ad h q1 q2 cA cB tf ff cw otd_16 oan_17 qb pa y_4 vt_5 vf_6 y_8 vt_9 vf_10 H.size) (cwV 2 hts gX2_remainder_X2_leftOver rfl rfl rfl kV_X2_leftOver ⟨Nat.le_of_ble_eq_true rfl, Nat.le_of_ble_eq_true rfl⟩) ⟨MRB.blind, va_recv hK hP (ci := 1) (q0 := 0) rfl rfl, MRB.pre hK hP hD (vP_one hx_y_4 (vP_one hx_y_8 vP_nil)) (ap_one nx_y_4 (ap_one nx_y_8 ap_nil)) hE hS hFc⟩ rfl rfl hl.1 rfl (lv_room (Nat.le_of_ble_eq_true rfl)) dX2_remainder_84 ⟨Nat.le_of_ble_eq_true rfl, Nat.le_of_ble_eq_true rfl⟩) hS (fun q _ h9 => hFc q h9) hFc (fun u9 y_28 t9 H locs ht hvm hw hB hz1 hk1 hS => ?_)
          obtain ⟨vt_29, vf_30, otd_31, oqb_32, opa_33, e_34, hP, hD9, hx_y_28, nx_y_28⟩ := hB
          rw [ht] at hP hx_y_28
          have hD : va_D A (cRS h q1 q2 cA cB tf ff cw otd_31 oan_17 oqb_32 opa_33) := hD9.weaken (fun _ _ _ h => hFc _ h)
          have hx_y_4 := ro_keep hx_y_4 nx_y_4 hk1
          have hx_y_8 := ro_keep hx_y_8 nx_y_8 hk1
          have hFc := va_free (wc := cRS h q1 q2 cA cB tf ff cw otd_31 oan_17 oqb_32 opa_33) hD hS hA [0, 1, 2] rfl
          refine va_callv (va_runV (As := [.int rc, .ref y_28]) (rest := []) ⟨hx, hb, hml, hown, hts⟩ (c_X2_write l D ad h q1 q2 cA cB tf ff cw otd_31 oan_17 oqb_32 opa_33 y_28 vt_29 vf_30 rc H.size (R_need_in c_3)) (cwV 2 hts gX2_remainder_X2_write rfl rfl rfl kV_X2_write ⟨Nat.le_of_ble_eq_true rfl, Nat.le_of_ble_eq_true rfl⟩) ⟨MRB.blind, va_recv hK hP (ci := 1) (q0 := 0) rfl rfl, MRB.pre hK hP hD (vP_one hx_y_28 vP_nil) (ap_one nx_y_28 ap_nil) hE hS hFc⟩ rfl rfl hl.1 rfl (lv_room (Nat.le_of_ble_eq_true rfl)) dX2_remainder_87 ⟨Nat.le_of_ble_eq_true rfl, Nat.le_of_ble_eq_true rfl⟩) hS (fun q _ h9 => hFc q h9) hFc (fun u9 t9 H locs ht hvm hw hB hz1 hk1 hS => ?_)
          obtain ⟨otf_35, off_36, e_37, hP, hD9⟩ := hB
          rw [ht] at hP
          have hD : va_D A (cRS h q1 q2 cA cB otf_35 off_36 cw otd_31 oan_17 oqb_32 opa_33) := hD9.weaken (fun _ _ _ h => hFc _ h)
          have hx_y_4 := ro_keep hx_y_4 nx_y_4 hk1
          have hx_y_8 := ro_keep hx_y_8 nx_y_8 hk1
          have hx_y_28 := ro_keep hx_y_28 nx_y_28 hk1
          refine lv_goto (tgt := 112) hx hb dX2_remainder_90 (by decide) ?_
          refine lv_aload_n hx hb dX2_remainder_112 rfl (lv_at hl 3 rfl) ?_
          refine va_get (v := .int otd_31) (C := RX2) (T := TX2) (N := 7) hx hb hts in_X2 hown hK hP 0 rfl rfl 3 (by decide) w_10 (fun _ h9 => h9) rfl dX2_remainder_113 ?_
          have hw : R_remainder tf ff cw td an qb pa ra rb rc = (otd_31, 0, otf_35, off_36, otd_31, oan_17, oqb_32, opa_33) := by unfold R_remainder; rw [if_pos c_1, if_pos c_2, if_pos c_3, tup2_e e_7, tup2_e e_11, tup3_e e_18, if_neg c_19, tup5_e e_34, tup2_e e_37]; try rfl
          exact vx_ret (W.iret hx hb hr (fun t9 ht hW => ⟨⟨_, otd_31, rfl, rfl, ⟨otf_35, off_36, otd_31, oan_17, oqb_32, opa_33, hw, by rw [ht]; exact hP, hD⟩⟩, hS.F ht⟩) hS.2.2 dX2_remainder_116)
def R_compare (tf : Nat → Int32) (ff : Nat → Int64) (cw : Int32) (td : Int32) (an : Bool) (ra : Int32) (rb : Int32) : Int32 × Int32 × Int32 × Bool :=
  if R_need ra = true then (if R_need rb = true then (tup2 ((R_read (tf ra.toNatClampNeg) (ff ra.toNatClampNeg))) (fun vt_4 vf_5 =>
        tup2 ((R_read (tf rb.toNatClampNeg) (ff rb.toNatClampNeg))) (fun vt_8 vf_9 =>
          tup3 ((R_order cw vt_4 vf_5 vt_8 vf_9)) (fun v_11 otd_12 oan_13 =>
            (v_11, 0, otd_12, oan_13)))))
    else (0, 1, td, an))
  else (0, 1, td, an)
theorem kS_X2_compare : yX2_compare.cls ≠ "java/lang/invoke/MethodHandle" ∧ yX2_compare.cls ≠ "java/lang/invoke/VarHandle" ∧ (parseMethodDescriptor yX2_compare.desc).map (fun d => d.parameters.length) = some 2 := by decide +kernel
theorem kV_X2_compare : yX2_compare.cls = RX2 ∧ yX2_compare.cls ≠ "java/lang/invoke/MethodHandle" ∧ yX2_compare.cls ≠ "java/lang/invoke/VarHandle" ∧ (parseMethodDescriptor yX2_compare.desc).map (fun d => d.parameters.length) = some 2 := ⟨rfl, kS_X2_compare⟩
set_option maxHeartbeats 4000000 in
set_option maxRecDepth 100000 in
theorem c_X2_compare (l : Launch) (hl9 : l.stackTraces = false) (D : va_G) (ad : Nat → Nat) (h : Nat) (q1 : Nat) (q2 : Nat) (cA : ClassId) (cB : ClassId) (tf : Nat → Int32) (ff : Nat → Int64) (cw : Int32) (td : Int32) (an : Bool) (qb : Int32) (pa : Bool) (ra : Int32) (rb : Int32) (sz : Nat) : vx_Met l yX2_compare wsX2_compare ({ frames := 7, cells := 4, slots := 16, locals := 112 } : Room) (va_Pc [.ref h, .int ra, .int rb] (TXB (MRB D ad h q1 q2 (tRS cA cB) (cRS h q1 q2 cA cB tf ff cw td an qb pa) [] sz))) (va_Qi (fun (r u : Int32) => r = u) (fun u t => ∃ (w_td : Int32) (w_an : Bool), R_compare tf ff cw td an ra rb = (u, 0, w_td, w_an) ∧ va_P D vwCl (cRS h q1 q2 cA cB tf ff cw w_td w_an qb pa) t.heap ∧ va_D (va_A (cRS h q1 q2 cA cB tf ff cw td an qb pa) sz) (cRS h q1 q2 cA cB tf ff cw w_td w_an qb pa)) (va_A (cRS h q1 q2 cA cB tf ff cw td an qb pa) sz)) (vx_X (fun _ : Unit => True) (fun E _ t => ∃ k : Int32, R_compare tf ff cw td an ra rb = (0, k, td, an) ∧ (E = xIOB ∧ k = 1) ∧ va_P D vwCl (cRS h q1 q2 cA cB tf ff cw td an qb pa) t.heap) (va_A (cRS h q1 q2 cA cB tf ff cw td an qb pa) sz)) 4 16 (va_A (cRS h q1 q2 cA cB tf ff cw td an qb pa) sz) := by
  refine vx_ofW (cc := cX2_compare) (maxL := 3) (ret := (some .int)) (by decide) rfl ?_
  intro p e s m args below meth c s₁ B hml htb hv
  obtain ⟨rfl, ⟨hsz, hP, hK, hD0, hR0, hRp, hE⟩, hDW⟩ := hv
  have hx := B.exec
  have hb := B.bytes
  have hr := B.returns
  have hts := atoms_spec (ws := wsX2_compare) B.pre
  have hown : s.vm.findClass RX2 = some m.cls := findClass_of_methodNamed B.named
  have hlocks := B.notSynchronized
  subst hsz
  have hD := hD0.self (sz := s.heap.size)
  have hRA := rs_A hR0 hRp (e1 := .inr (1, [.ref q1, .ref q2, .int cw, .int td, .int (bI an), .int qb, .int (bI pa)])) (e2 := .inl (cA, 8, .inl tf)) (e3 := .inl (cB, 8, .inr (.inl ff)))
  generalize hAe : va_A (cRS h q1 q2 cA cB tf ff cw td an qb pa) s.heap.size = A at hD hE hRA ⊢
  have hA : ∀ q : Nat, s.heap.size ≤ q → A q := fun q h => by rw [← hAe]; exact Or.inr h
  have hS : va_S A s.heap s.heap [] := va_S.rf
  have hP : va_P D vwCl (cRS h q1 q2 cA cB tf ff cw td an qb pa) s.heap := hP
  have hl := lv_entry ([.ref h, .int ra, .int rb]) (n := 3) (Nat.le_of_ble_eq_true rfl)
  rw [lg_entry_eq]
  generalize (lg_sl ([.ref h, .int ra, .int rb]) ++ List.replicate (3 - (lg_sl ([.ref h, .int ra, .int rb])).length) Slot.unset).toArray = ls at hl ⊢
  have hl : lv_has ls 3 [(0, .ref h), (1, .int ra), (2, .int rb)] := hl
  refine lv_iload_n hx hb dX2_compare_0 rfl (lv_at hl 1 rfl) ?_
  have hFc : ∀ q, va_A [] s.heap.size q → A q := va_free (wc := []) hD hS hA [] rfl
  refine vx_callv (vx_runS (As := [.int ra]) (rest := []) ⟨hx, hb, hml, hown, hts⟩ (c_X2_needRegister l hl9 D ad ra s.heap.size) (va_cwS 1 hts gX2_compare_X2_needRegister rfl rfl rfl kS_X2_needRegister ⟨Nat.le_of_ble_eq_true rfl, Nat.le_of_ble_eq_true rfl⟩) ⟨TXB.blind SCB.blind, TXB.pre (SCB.pre hK vP_nil hE hS hFc) hDW⟩ rfl rfl hl.1 rfl (lv_room (Nat.le_of_ble_eq_true rfl)) dX2_compare_1 ⟨Nat.le_of_ble_eq_true rfl, Nat.le_of_ble_eq_true rfl⟩) hS (fun q _ h9 => hFc q h9) hFc (fun q _ h9 => hFc q h9) (fun E9 ce9 q9 u9 t9 H9 locs9 ht hvm c_1 hB hz1 hk1 hS9 hce9 hcv9 hcl9 => ?_) (fun u9 t9 H locs ht hvm c_1 hB hz1 hk1 hS => ?_)
  · have hw : R_compare tf ff cw td an ra rb = (0, 1, td, an) := by unfold R_compare; rw [if_neg c_1]; try rfl
    exact vx_out (fun x h => (htb x h).elim) hlocks hce9 hcv9 hcl9 (fun t9 ht ha => ⟨(), trivial, ⟨1, hw, ⟨hB, rfl⟩, by rw [ht]; exact ro_make hP hk1⟩, hS9.F ht⟩) hS9.2.2 (Nat.le_of_ble_eq_true rfl) (Nat.le_of_ble_eq_true rfl)
  · have hP : va_P D vwCl (cRS h q1 q2 cA cB tf ff cw td an qb pa) H := ro_make hP hk1
    refine lv_iload_n hx hb dX2_compare_4 rfl (lv_at hl 2 rfl) ?_
    have hFc : ∀ q, va_A [] H.size q → A q := va_free (wc := []) hD hS hA [] rfl
    refine vx_callv (vx_runS (As := [.int rb]) (rest := []) ⟨hx, hb, hml, hown, hts⟩ (c_X2_needRegister l hl9 D ad rb H.size) (va_cwS 1 hts gX2_compare_X2_needRegister rfl rfl rfl kS_X2_needRegister ⟨Nat.le_of_ble_eq_true rfl, Nat.le_of_ble_eq_true rfl⟩) ⟨TXB.blind SCB.blind, TXB.pre (SCB.pre hK vP_nil hE hS hFc) hDW⟩ rfl rfl hl.1 rfl (lv_room (Nat.le_of_ble_eq_true rfl)) dX2_compare_5 ⟨Nat.le_of_ble_eq_true rfl, Nat.le_of_ble_eq_true rfl⟩) hS (fun q _ h9 => hFc q h9) hFc (fun q _ h9 => hFc q h9) (fun E9 ce9 q9 u9 t9 H9 locs9 ht hvm c_2 hB hz1 hk1 hS9 hce9 hcv9 hcl9 => ?_) (fun u9 t9 H locs ht hvm c_2 hB hz1 hk1 hS => ?_)
    · have hw : R_compare tf ff cw td an ra rb = (0, 1, td, an) := by unfold R_compare; rw [if_pos c_1, if_neg c_2]; try rfl
      exact vx_out (fun x h => (htb x h).elim) hlocks hce9 hcv9 hcl9 (fun t9 ht ha => ⟨(), trivial, ⟨1, hw, ⟨hB, rfl⟩, by rw [ht]; exact ro_make hP hk1⟩, hS9.F ht⟩) hS9.2.2 (Nat.le_of_ble_eq_true rfl) (Nat.le_of_ble_eq_true rfl)
    · have hP : va_P D vwCl (cRS h q1 q2 cA cB tf ff cw td an qb pa) H := ro_make hP hk1
      refine lv_aload_n hx hb dX2_compare_8 rfl (lv_at hl 0 rfl) ?_
      refine lv_aload_n hx hb dX2_compare_9 rfl (lv_at hl 0 rfl) ?_
      refine lv_iload_n hx hb dX2_compare_10 rfl (lv_at hl 1 rfl) ?_
      have hFc := va_free (wc := cRS h q1 q2 cA cB tf ff cw td an qb pa) hD hS hA [0, 1, 2] rfl
      refine va_callr (va_runV (As := [.int ra]) (rest := [.ref h]) ⟨hx, hb, hml, hown, hts⟩ (c_X2_read l D ad h q1 q2 cA cB tf ff cw td an qb pa ra H.size (R_need_in c_1)) (cwV 1 hts gX2_compare_X2_read rfl rfl rfl kV_X2_read ⟨Nat.le_of_ble_eq_true rfl, Nat.le_of_ble_eq_true rfl⟩) ⟨MRB.blind, va_recv hK hP (ci := 1) (q0 := 0) rfl rfl, MRB.pre hK hP hD vP_nil ap_nil hE hS hFc⟩ rfl rfl hl.1 rfl (lv_room (Nat.le_of_ble_eq_true rfl)) dX2_compare_11 ⟨Nat.le_of_ble_eq_true rfl, Nat.le_of_ble_eq_true rfl⟩) hS (fun q _ h9 => hFc q h9) hFc (fun u9 y_3 t9 H locs ht hvm hw hB hz1 hk1 hS => ?_)
      obtain ⟨vt_4, vf_5, e_6, hP, hD9, hx_y_3, nx_y_3⟩ := hB
      rw [ht] at hP hx_y_3
      have hD : va_D A (cRS h q1 q2 cA cB tf ff cw td an qb pa) := hD9.weaken (fun _ _ _ h => hFc _ h)
      refine lv_aload_n hx hb dX2_compare_14 rfl (lv_at hl 0 rfl) ?_
      refine lv_iload_n hx hb dX2_compare_15 rfl (lv_at hl 2 rfl) ?_
      have hFc := va_free (wc := cRS h q1 q2 cA cB tf ff cw td an qb pa) hD hS hA [0, 1, 2] rfl
      refine va_callr (va_runV (As := [.int rb]) (rest := [.ref y_3, .ref h]) ⟨hx, hb, hml, hown, hts⟩ (c_X2_read l D ad h q1 q2 cA cB tf ff cw td an qb pa rb H.size (R_need_in c_2)) (cwV 1 hts gX2_compare_X2_read rfl rfl rfl kV_X2_read ⟨Nat.le_of_ble_eq_true rfl, Nat.le_of_ble_eq_true rfl⟩) ⟨MRB.blind, va_recv hK hP (ci := 1) (q0 := 0) rfl rfl, MRB.pre hK hP hD vP_nil ap_nil hE hS hFc⟩ rfl rfl hl.1 rfl (lv_room (Nat.le_of_ble_eq_true rfl)) dX2_compare_16 ⟨Nat.le_of_ble_eq_true rfl, Nat.le_of_ble_eq_true rfl⟩) hS (fun q _ h9 => hFc q h9) hFc (fun u9 y_7 t9 H locs ht hvm hw hB hz1 hk1 hS => ?_)
      obtain ⟨vt_8, vf_9, e_10, hP, hD9, hx_y_7, nx_y_7⟩ := hB
      rw [ht] at hP hx_y_7
      have hD : va_D A (cRS h q1 q2 cA cB tf ff cw td an qb pa) := hD9.weaken (fun _ _ _ h => hFc _ h)
      have hx_y_3 := ro_keep hx_y_3 nx_y_3 hk1
      have hFc := va_free (wc := cRS h q1 q2 cA cB tf ff cw td an qb pa) hD hS hA [0, 1, 2] rfl
      refine va_calli (va_runV (As := [.ref y_3, .ref y_7]) (rest := []) ⟨hx, hb, hml, hown, hts⟩ (c_X2_order l D ad h q1 q2 cA cB tf ff cw td an qb pa y_3 vt_4 vf_5 y_7 vt_8 vf_9 H.size) (cwV 2 hts gX2_compare_X2_order rfl rfl rfl kV_X2_order ⟨Nat.le_of_ble_eq_true rfl, Nat.le_of_ble_eq_true rfl⟩) ⟨MRB.blind, va_recv hK hP (ci := 1) (q0 := 0) rfl rfl, MRB.pre hK hP hD (vP_one hx_y_3 (vP_one hx_y_7 vP_nil)) (ap_one nx_y_3 (ap_one nx_y_7 ap_nil)) hE hS hFc⟩ rfl rfl hl.1 rfl (lv_room (Nat.le_of_ble_eq_true rfl)) dX2_compare_19 ⟨Nat.le_of_ble_eq_true rfl, Nat.le_of_ble_eq_true rfl⟩) hS (fun q _ h9 => hFc q h9) hFc (fun v_11 u9 t9 H locs ht hvm hw hB hz1 hk1 hS => ?_)
      obtain rfl := hw
      obtain ⟨otd_12, oan_13, e_14, hP, hD9⟩ := hB
      rw [ht] at hP
      have hD : va_D A (cRS h q1 q2 cA cB tf ff cw otd_12 oan_13 qb pa) := hD9.weaken (fun _ _ _ h => hFc _ h)
      have hx_y_3 := ro_keep hx_y_3 nx_y_3 hk1
      have hx_y_7 := ro_keep hx_y_7 nx_y_7 hk1
      have hw : R_compare tf ff cw td an ra rb = (v_11, 0, otd_12, oan_13) := by unfold R_compare; rw [if_pos c_1, if_pos c_2, tup2_e e_6, tup2_e e_10, tup3_e e_14]; try rfl
      exact vx_ret (W.iret hx hb hr (fun t9 ht hW => ⟨⟨_, v_11, rfl, rfl, ⟨otd_12, oan_13, hw, by rw [ht]; exact hP, hD⟩⟩, hS.F ht⟩) hS.2.2 dX2_compare_22)
def R_test (tf : Nat → Int32) (ff : Nat → Int64) (cw : Int32) (td : Int32) (an : Bool) (ra : Int32) : Int32 × Int32 × Int32 × Bool :=
  if R_need ra = true then (tup2 ((R_read (tf ra.toNatClampNeg) (ff ra.toNatClampNeg))) (fun vt_3 vf_4 =>
      tup2 ((R_zero false)) (fun vt_7 vf_8 =>
        tup3 ((R_order cw vt_3 vf_4 vt_7 vf_8)) (fun v_10 otd_11 oan_12 =>
          (v_10, 0, otd_11, oan_12)))))
  else (0, 1, td, an)
theorem kS_X2_test : yX2_test.cls ≠ "java/lang/invoke/MethodHandle" ∧ yX2_test.cls ≠ "java/lang/invoke/VarHandle" ∧ (parseMethodDescriptor yX2_test.desc).map (fun d => d.parameters.length) = some 1 := by decide +kernel
theorem kV_X2_test : yX2_test.cls = RX2 ∧ yX2_test.cls ≠ "java/lang/invoke/MethodHandle" ∧ yX2_test.cls ≠ "java/lang/invoke/VarHandle" ∧ (parseMethodDescriptor yX2_test.desc).map (fun d => d.parameters.length) = some 1 := ⟨rfl, kS_X2_test⟩
set_option maxHeartbeats 4000000 in
set_option maxRecDepth 100000 in
theorem c_X2_test (l : Launch) (hl9 : l.stackTraces = false) (D : va_G) (ad : Nat → Nat) (h : Nat) (q1 : Nat) (q2 : Nat) (cA : ClassId) (cB : ClassId) (tf : Nat → Int32) (ff : Nat → Int64) (cw : Int32) (td : Int32) (an : Bool) (qb : Int32) (pa : Bool) (ra : Int32) (sz : Nat) : vx_Met l yX2_test wsX2_test ({ frames := 7, cells := 3, slots := 10, locals := 112 } : Room) (va_Pc [.ref h, .int ra] (TXB (MRB D ad h q1 q2 (tRS cA cB) (cRS h q1 q2 cA cB tf ff cw td an qb pa) [] sz))) (va_Qi (fun (r u : Int32) => r = u) (fun u t => ∃ (w_td : Int32) (w_an : Bool), R_test tf ff cw td an ra = (u, 0, w_td, w_an) ∧ va_P D vwCl (cRS h q1 q2 cA cB tf ff cw w_td w_an qb pa) t.heap ∧ va_D (va_A (cRS h q1 q2 cA cB tf ff cw td an qb pa) sz) (cRS h q1 q2 cA cB tf ff cw w_td w_an qb pa)) (va_A (cRS h q1 q2 cA cB tf ff cw td an qb pa) sz)) (vx_X (fun _ : Unit => True) (fun E _ t => ∃ k : Int32, R_test tf ff cw td an ra = (0, k, td, an) ∧ (E = xIOB ∧ k = 1) ∧ va_P D vwCl (cRS h q1 q2 cA cB tf ff cw td an qb pa) t.heap) (va_A (cRS h q1 q2 cA cB tf ff cw td an qb pa) sz)) 3 10 (va_A (cRS h q1 q2 cA cB tf ff cw td an qb pa) sz) := by
  refine vx_ofW (cc := cX2_test) (maxL := 2) (ret := (some .int)) (by decide) rfl ?_
  intro p e s m args below meth c s₁ B hml htb hv
  obtain ⟨rfl, ⟨hsz, hP, hK, hD0, hR0, hRp, hE⟩, hDW⟩ := hv
  have hx := B.exec
  have hb := B.bytes
  have hr := B.returns
  have hts := atoms_spec (ws := wsX2_test) B.pre
  have hown : s.vm.findClass RX2 = some m.cls := findClass_of_methodNamed B.named
  have hlocks := B.notSynchronized
  subst hsz
  have hD := hD0.self (sz := s.heap.size)
  have hRA := rs_A hR0 hRp (e1 := .inr (1, [.ref q1, .ref q2, .int cw, .int td, .int (bI an), .int qb, .int (bI pa)])) (e2 := .inl (cA, 8, .inl tf)) (e3 := .inl (cB, 8, .inr (.inl ff)))
  generalize hAe : va_A (cRS h q1 q2 cA cB tf ff cw td an qb pa) s.heap.size = A at hD hE hRA ⊢
  have hA : ∀ q : Nat, s.heap.size ≤ q → A q := fun q h => by rw [← hAe]; exact Or.inr h
  have hS : va_S A s.heap s.heap [] := va_S.rf
  have hP : va_P D vwCl (cRS h q1 q2 cA cB tf ff cw td an qb pa) s.heap := hP
  have hl := lv_entry ([.ref h, .int ra]) (n := 2) (Nat.le_of_ble_eq_true rfl)
  rw [lg_entry_eq]
  generalize (lg_sl ([.ref h, .int ra]) ++ List.replicate (2 - (lg_sl ([.ref h, .int ra])).length) Slot.unset).toArray = ls at hl ⊢
  have hl : lv_has ls 2 [(0, .ref h), (1, .int ra)] := hl
  refine lv_iload_n hx hb dX2_test_0 rfl (lv_at hl 1 rfl) ?_
  have hFc : ∀ q, va_A [] s.heap.size q → A q := va_free (wc := []) hD hS hA [] rfl
  refine vx_callv (vx_runS (As := [.int ra]) (rest := []) ⟨hx, hb, hml, hown, hts⟩ (c_X2_needRegister l hl9 D ad ra s.heap.size) (va_cwS 1 hts gX2_test_X2_needRegister rfl rfl rfl kS_X2_needRegister ⟨Nat.le_of_ble_eq_true rfl, Nat.le_of_ble_eq_true rfl⟩) ⟨TXB.blind SCB.blind, TXB.pre (SCB.pre hK vP_nil hE hS hFc) hDW⟩ rfl rfl hl.1 rfl (lv_room (Nat.le_of_ble_eq_true rfl)) dX2_test_1 ⟨Nat.le_of_ble_eq_true rfl, Nat.le_of_ble_eq_true rfl⟩) hS (fun q _ h9 => hFc q h9) hFc (fun q _ h9 => hFc q h9) (fun E9 ce9 q9 u9 t9 H9 locs9 ht hvm c_1 hB hz1 hk1 hS9 hce9 hcv9 hcl9 => ?_) (fun u9 t9 H locs ht hvm c_1 hB hz1 hk1 hS => ?_)
  · have hw : R_test tf ff cw td an ra = (0, 1, td, an) := by unfold R_test; rw [if_neg c_1]; try rfl
    exact vx_out (fun x h => (htb x h).elim) hlocks hce9 hcv9 hcl9 (fun t9 ht ha => ⟨(), trivial, ⟨1, hw, ⟨hB, rfl⟩, by rw [ht]; exact ro_make hP hk1⟩, hS9.F ht⟩) hS9.2.2 (Nat.le_of_ble_eq_true rfl) (Nat.le_of_ble_eq_true rfl)
  · have hP : va_P D vwCl (cRS h q1 q2 cA cB tf ff cw td an qb pa) H := ro_make hP hk1
    refine lv_aload_n hx hb dX2_test_4 rfl (lv_at hl 0 rfl) ?_
    refine lv_aload_n hx hb dX2_test_5 rfl (lv_at hl 0 rfl) ?_
    refine lv_iload_n hx hb dX2_test_6 rfl (lv_at hl 1 rfl) ?_
    have hFc := va_free (wc := cRS h q1 q2 cA cB tf ff cw td an qb pa) hD hS hA [0, 1, 2] rfl
    refine va_callr (va_runV (As := [.int ra]) (rest := [.ref h]) ⟨hx, hb, hml, hown, hts⟩ (c_X2_read l D ad h q1 q2 cA cB tf ff cw td an qb pa ra H.size (R_need_in c_1)) (cwV 1 hts gX2_test_X2_read rfl rfl rfl kV_X2_read ⟨Nat.le_of_ble_eq_true rfl, Nat.le_of_ble_eq_true rfl⟩) ⟨MRB.blind, va_recv hK hP (ci := 1) (q0 := 0) rfl rfl, MRB.pre hK hP hD vP_nil ap_nil hE hS hFc⟩ rfl rfl hl.1 rfl (lv_room (Nat.le_of_ble_eq_true rfl)) dX2_test_7 ⟨Nat.le_of_ble_eq_true rfl, Nat.le_of_ble_eq_true rfl⟩) hS (fun q _ h9 => hFc q h9) hFc (fun u9 y_2 t9 H locs ht hvm hw hB hz1 hk1 hS => ?_)
    obtain ⟨vt_3, vf_4, e_5, hP, hD9, hx_y_2, nx_y_2⟩ := hB
    rw [ht] at hP hx_y_2
    have hD : va_D A (cRS h q1 q2 cA cB tf ff cw td an qb pa) := hD9.weaken (fun _ _ _ h => hFc _ h)
    refine lv_iconst (v := 0) hx hb dX2_test_10 (by decide) ?_
    have hFc : ∀ q, va_A [] H.size q → A q := va_free (wc := []) hD hS hA [] rfl
    refine va_callr (va_runS (As := [.int (bI false)]) (rest := [.ref y_2, .ref h]) ⟨hx, hb, hml, hown, hts⟩ (c_X2_zero l D ad false H.size) (va_cwS 1 hts gX2_test_X2_zero rfl rfl rfl kS_X2_zero ⟨Nat.le_of_ble_eq_true rfl, Nat.le_of_ble_eq_true rfl⟩) ⟨SCB.blind, SCB.pre hK vP_nil hE hS hFc⟩ rfl rfl hl.1 rfl (lv_room (Nat.le_of_ble_eq_true rfl)) dX2_test_11 ⟨Nat.le_of_ble_eq_true rfl, Nat.le_of_ble_eq_true rfl⟩) hS (fun q _ h9 => hFc q h9) hFc (fun u9 y_6 t9 H locs ht hvm hw hB hz1 hk1 hS => ?_)
    obtain ⟨vt_7, vf_8, e_9, hx_y_6, nz_y_6⟩ := hB
    rw [ht] at hx_y_6
    have nx_y_6 : ap3 y_6 h q1 q2 := ap_new hP nz_y_6
    have hP : va_P D vwCl (cRS h q1 q2 cA cB tf ff cw td an qb pa) H := ro_make hP hk1
    have hx_y_2 := ro_make hx_y_2 hk1
    have hFc := va_free (wc := cRS h q1 q2 cA cB tf ff cw td an qb pa) hD hS hA [0, 1, 2] rfl
    refine va_calli (va_runV (As := [.ref y_2, .ref y_6]) (rest := []) ⟨hx, hb, hml, hown, hts⟩ (c_X2_order l D ad h q1 q2 cA cB tf ff cw td an qb pa y_2 vt_3 vf_4 y_6 vt_7 vf_8 H.size) (cwV 2 hts gX2_test_X2_order rfl rfl rfl kV_X2_order ⟨Nat.le_of_ble_eq_true rfl, Nat.le_of_ble_eq_true rfl⟩) ⟨MRB.blind, va_recv hK hP (ci := 1) (q0 := 0) rfl rfl, MRB.pre hK hP hD (vP_one hx_y_2 (vP_one hx_y_6 vP_nil)) (ap_one nx_y_2 (ap_one nx_y_6 ap_nil)) hE hS hFc⟩ rfl rfl hl.1 rfl (lv_room (Nat.le_of_ble_eq_true rfl)) dX2_test_14 ⟨Nat.le_of_ble_eq_true rfl, Nat.le_of_ble_eq_true rfl⟩) hS (fun q _ h9 => hFc q h9) hFc (fun v_10 u9 t9 H locs ht hvm hw hB hz1 hk1 hS => ?_)
    obtain rfl := hw
    obtain ⟨otd_11, oan_12, e_13, hP, hD9⟩ := hB
    rw [ht] at hP
    have hD : va_D A (cRS h q1 q2 cA cB tf ff cw otd_11 oan_12 qb pa) := hD9.weaken (fun _ _ _ h => hFc _ h)
    have hx_y_2 := ro_keep hx_y_2 nx_y_2 hk1
    have hx_y_6 := ro_keep hx_y_6 nx_y_6 hk1
    have hw : R_test tf ff cw td an ra = (v_10, 0, otd_11, oan_12) := by unfold R_test; rw [if_pos c_1, tup2_e e_5, tup2_e e_9, tup3_e e_13]; try rfl
    exact vx_ret (W.iret hx hb hr (fun t9 ht hW => ⟨⟨_, v_10, rfl, rfl, ⟨otd_11, oan_12, hw, by rw [ht]; exact hP, hD⟩⟩, hS.F ht⟩) hS.2.2 dX2_test_17)
