def M_goesOn (ct : Int32) (td : Int32) (an : Bool) (aT : Int32) (aF : Int64) (ta : Int32) (fa : Int64) (rb : Int32) (tb : Int32) (fb : Int64) (can : Bool) : Bool × Int32 × Bool × Int32 × Int64 :=
  if (M_kind ta fa) = 5 then (if rb < 0 then (tup2 ((M_tell ct td 1)) (fun v_67 otd_68 =>
        if bI v_67 = 0 then (false, otd_68, an, aT, aF)
        else (tup3 ((M_answer ta fa)) (fun oan_73 oaT_74 oaF_75 =>
            (false, otd_68, oan_73, oaT_74, oaF_75)))))
    else if (M_kind tb fb) = 5 then (if bI (M_less fa fb) = 0 then (if fa = fb then (if bI (M_minus ta) = 0 then (tup2 ((M_tell ct td 1)) (fun v_119 otd_120 =>
              if bI v_119 = 0 then (false, otd_120, an, aT, aF)
              else (tup3 ((M_answer ta fa)) (fun oan_125 oaT_126 oaF_127 =>
                  (false, otd_120, oan_125, oaT_126, oaF_127)))))
          else if bI (M_minus tb) = 0 then (tup2 ((M_tell ct td 1)) (fun v_140 otd_141 =>
              if bI v_140 = 0 then (false, otd_141, an, aT, aF)
              else (tup3 ((M_answer tb fb)) (fun oan_146 oaT_147 oaF_148 =>
                  (false, otd_141, oan_146, oaT_147, oaF_148)))))
          else (tup2 ((M_tell ct td 1)) (fun v_130 otd_131 =>
              if bI v_130 = 0 then (false, otd_131, an, aT, aF)
              else (tup3 ((M_answer ta fa)) (fun oan_136 oaT_137 oaF_138 =>
                  (false, otd_131, oan_136, oaT_137, oaF_138))))))
        else (tup2 ((M_tell ct td 1)) (fun v_108 otd_109 =>
            if bI v_108 = 0 then (false, otd_109, an, aT, aF)
            else (tup3 ((M_answer ta fa)) (fun oan_114 oaT_115 oaF_116 =>
                (false, otd_109, oan_114, oaT_115, oaF_116))))))
      else (tup2 ((M_tell ct td 1)) (fun v_97 otd_98 =>
          if bI v_97 = 0 then (false, otd_98, an, aT, aF)
          else (tup3 ((M_answer tb fb)) (fun oan_103 oaT_104 oaF_105 =>
              (false, otd_98, oan_103, oaT_104, oaF_105))))))
    else (tup2 ((M_tell ct td 1)) (fun v_82 otd_83 =>
        if bI v_82 = 0 then (false, otd_83, an, aT, aF)
        else (tup3 ((M_answer ta fa)) (fun oan_88 oaT_89 oaF_90 =>
            (false, otd_83, oan_88, oaT_89, oaF_90))))))
  else if rb < 0 then (if bI can = 0 then (tup2 ((M_tell ct td 1)) (fun v_14 otd_15 =>
        if bI v_14 = 0 then (false, otd_15, an, aT, aF)
        else (tup3 ((M_answer 65535 (-4611686018427387904))) (fun oan_18 oaT_19 oaF_20 =>
            (false, otd_15, oan_18, oaT_19, oaF_20)))))
    else if (M_kind ta fa) = 1 then (tup2 ((M_tell ct td 2)) (fun v_8 otd_9 =>
        if bI v_8 = 0 then (false, otd_9, an, aT, aF)
        else (true, otd_9, an, aT, aF)))
    else (true, td, an, aT, aF))
  else if (M_kind tb fb) = 5 then (tup2 ((M_tell ct td 1)) (fun v_52 otd_53 =>
      if bI v_52 = 0 then (false, otd_53, an, aT, aF)
      else (tup3 ((M_answer tb fb)) (fun oan_58 oaT_59 oaF_60 =>
          (false, otd_53, oan_58, oaT_59, oaF_60)))))
  else if bI can = 0 then (tup2 ((M_tell ct td 1)) (fun v_40 otd_41 =>
      if bI v_40 = 0 then (false, otd_41, an, aT, aF)
      else (tup3 ((M_answer 65535 (-4611686018427387904))) (fun oan_44 oaT_45 oaF_46 =>
          (false, otd_41, oan_44, oaT_45, oaF_46)))))
  else if (M_kind ta fa) = 1 then (tup2 ((M_tell ct td 2)) (fun v_28 otd_29 =>
      if bI v_28 = 0 then (false, otd_29, an, aT, aF)
      else (true, otd_29, an, aT, aF)))
  else if (M_kind tb fb) = 1 then (tup2 ((M_tell ct td 2)) (fun v_36 otd_37 =>
      if bI v_36 = 0 then (false, otd_37, an, aT, aF)
      else (true, otd_37, an, aT, aF)))
  else (true, td, an, aT, aF)
theorem kS_X3_goesOn : yX3_goesOn.cls ≠ "java/lang/invoke/MethodHandle" ∧ yX3_goesOn.cls ≠ "java/lang/invoke/VarHandle" ∧ (parseMethodDescriptor yX3_goesOn.desc).map (fun d => d.parameters.length) = some 3 := by decide +kernel
theorem kV_X3_goesOn : yX3_goesOn.cls = RX3 ∧ yX3_goesOn.cls ≠ "java/lang/invoke/MethodHandle" ∧ yX3_goesOn.cls ≠ "java/lang/invoke/VarHandle" ∧ (parseMethodDescriptor yX3_goesOn.desc).map (fun d => d.parameters.length) = some 3 := ⟨rfl, kS_X3_goesOn⟩
set_option maxHeartbeats 4000000 in
set_option maxRecDepth 100000 in
theorem c_X3_goesOn (l : Launch) (D : va_G) (h : Nat) (q1 : Nat) (q2 : Nat) (cA : ClassId) (cB : ClassId) (cd : Int32) (ct : Int32) (tf : Nat → Int32) (ff : Nat → Int64) (td : Int32) (an : Bool) (qb : Int32) (pa : Bool) (aT : Int32) (aF : Int64) (dg : Int64) (fi : Int32) (lo : Bool) (ra : Int32) (rb : Int32) (can : Bool) (sz : Nat) (hra : vp_in ra 8) (hrb : ¬ rb < 0 → vp_in rb 8) : Met l yX3_goesOn wsX3_goesOn ({ frames := 2, cells := 0, slots := 0, locals := 42 } : Room) (va_Pc [.ref h, .int ra, .int rb, .int (bI can)] (MMB D (tRS cA cB) (cMd h q1 q2 cA cB cd ct tf ff td an qb pa aT aF dg fi lo) sz)) (va_Qi (fun (r : Int32) (u : Bool) => r = bI u) (fun u t => ∃ (w_td : Int32) (w_an : Bool) (w_aT : Int32) (w_aF : Int64), M_goesOn ct td an aT aF (tf ra.toNatClampNeg) (ff ra.toNatClampNeg) rb (tf rb.toNatClampNeg) (ff rb.toNatClampNeg) can = (u, w_td, w_an, w_aT, w_aF) ∧ va_P D vwCl (cMd h q1 q2 cA cB cd ct tf ff w_td w_an qb pa w_aT w_aF dg fi lo) t.heap ∧ va_D (va_A (cMd h q1 q2 cA cB cd ct tf ff td an qb pa aT aF dg fi lo) sz) (cMd h q1 q2 cA cB cd ct tf ff w_td w_an qb pa w_aT w_aF dg fi lo)) (va_A (cMd h q1 q2 cA cB cd ct tf ff td an qb pa aT aF dg fi lo) sz)) 0 0 (va_A (cMd h q1 q2 cA cB cd ct tf ff td an qb pa aT aF dg fi lo) sz) := by
  refine Met.ofW (cc := cX3_goesOn) (maxL := 7) (ret := (some .boolean)) (by decide) rfl ?_
  intro p e s m args below meth c s₁ B hml hv
  obtain ⟨rfl, hsz, hP, hK, hD0⟩ := hv
  have hx := B.exec
  have hb := B.bytes
  have hr := B.returns
  have hts := atoms_spec (ws := wsX3_goesOn) B.pre
  have hown : s.vm.findClass RX3 = some m.cls := findClass_of_methodNamed B.named
  have hlocks := B.notSynchronized
  have w_1 := hts (.constant RX3 24 (65535)) (by decide +kernel)
  have w_2 := hts (.constantLong RX3 92 (-4611686018427387904)) (by decide +kernel)
  have w_3 := hts (.fieldLink RX3 13 "RealStepsModel" "top" "[I") (by decide +kernel)
  have in_X3 : ∀ w ∈ wsX30, w ∈ wsX3_goesOn := by decide +kernel
  have w_5 := hts (.fieldLink RX3 17 "RealStepsModel" "fraction" "[J") (by decide +kernel)
  subst hsz
  have hD := hD0.self (sz := s.heap.size)
  generalize hAe : va_A (cMd h q1 q2 cA cB cd ct tf ff td an qb pa aT aF dg fi lo) s.heap.size = A at hD ⊢
  have hA : ∀ q : Nat, s.heap.size ≤ q → A q := fun q h => by rw [← hAe]; exact Or.inr h
  have hS : va_S A s.heap s.heap [] := va_S.rf
  have hP : va_P D vwCl (cMd h q1 q2 cA cB cd ct tf ff td an qb pa aT aF dg fi lo) s.heap := hP
  have hl := lv_entry ([.ref h, .int ra, .int rb, .int (bI can)]) (n := 7) (Nat.le_of_ble_eq_true rfl)
  rw [lg_entry_eq]
  generalize (lg_sl ([.ref h, .int ra, .int rb, .int (bI can)]) ++ List.replicate (7 - (lg_sl ([.ref h, .int ra, .int rb, .int (bI can)])).length) Slot.unset).toArray = ls at hl ⊢
  have hl : lv_has ls 7 [(0, .ref h), (1, .int ra), (2, .int rb), (3, .int (bI can))] := hl
  refine lv_aload_n hx hb dX3_goesOn_0 rfl (lv_at hl 0 rfl) ?_
  refine lv_iload_n hx hb dX3_goesOn_1 rfl (lv_at hl 1 rfl) ?_
  refine vp_callSi (va_cr (va_runV (As := [.int ra]) (rest := []) ⟨hx, hb, hml, hown, hts⟩ (c_X3_kind l D h q1 q2 cA cB cd ct tf ff td an qb pa aT aF dg fi lo ra hra) (cwV 1 hts gX3_goesOn_X3_kind rfl rfl rfl kV_X3_kind ⟨Nat.le_of_ble_eq_true rfl, Nat.le_of_ble_eq_true rfl⟩) ⟨PB.blind, va_recv hK hP (ci := 2) (q0 := 0) rfl rfl, PB.pre hK hP⟩ rfl rfl hl.1 rfl (lv_room (Nat.le_of_ble_eq_true rfl)) dX3_goesOn_2 ⟨Nat.le_of_ble_eq_true rfl, Nat.le_of_ble_eq_true rfl⟩)) (fun r9 e9 => ?_)
  rw [e9]
  refine lv_iconst (v := 5) hx hb dX3_goesOn_5 (by decide) ?_
  refine lv_icmp_ne (tgt := 13) hx hb dX3_goesOn_6 (by decide) (fun c_1 => ?_) (fun c_1 => ?_)
  · refine lv_iconst (v := 0) hx hb dX3_goesOn_13 (by decide) ?_
    refine lv_istore (lv' := [(4, .int 0), (0, .ref h), (1, .int ra), (2, .int rb), (3, .int (bI can))]) hx hb dX3_goesOn_14 hl (by decide) rfl (fun ls hl => ?_)
    refine lv_iload_n hx hb dX3_goesOn_16 rfl (lv_at hl 3 rfl) ?_
    refine lv_if_lt (tgt := 33) hx hb dX3_goesOn_17 (by decide) (fun c_2 => ?_) (fun c_2 => ?_)
    · refine lv_iconst (v := 0) hx hb dX3_goesOn_33 (by decide) ?_
      refine lv_istore (lv' := [(5, .int 0), (4, .int 0), (0, .ref h), (1, .int ra), (2, .int rb), (3, .int (bI can))]) hx hb dX3_goesOn_34 hl (by decide) rfl (fun ls hl => ?_)
      refine lv_iload hx hb dX3_goesOn_36 (lv_at hl 1 rfl) ?_
      refine lv_if_ne (tgt := 46) hx hb dX3_goesOn_38 (by decide) (fun c_3 => ?_) (fun c_3 => ?_)
      · exact absurd c_3 (by decide)
      · refine lv_iload hx hb dX3_goesOn_41 (lv_at hl 0 rfl) ?_
        refine lv_if_eq (tgt := 169) hx hb dX3_goesOn_43 (by decide) (fun c_4 => ?_) (fun c_4 => ?_)
        · refine lv_iload_n hx hb dX3_goesOn_169 rfl (lv_at hl 5 rfl) ?_
          refine lv_if_ne (tgt := 192) hx hb dX3_goesOn_170 (by decide) (fun c_5 => ?_) (fun c_5 => ?_)
          · refine lv_aload_n hx hb dX3_goesOn_192 rfl (lv_at hl 2 rfl) ?_
            refine lv_iload_n hx hb dX3_goesOn_193 rfl (lv_at hl 3 rfl) ?_
            refine vp_callSi (va_cr (va_runV (As := [.int ra]) (rest := []) ⟨hx, hb, hml, hown, hts⟩ (c_X3_kind l D h q1 q2 cA cB cd ct tf ff td an qb pa aT aF dg fi lo ra hra) (cwV 1 hts gX3_goesOn_X3_kind rfl rfl rfl kV_X3_kind ⟨Nat.le_of_ble_eq_true rfl, Nat.le_of_ble_eq_true rfl⟩) ⟨PB.blind, va_recv hK hP (ci := 2) (q0 := 0) rfl rfl, PB.pre hK hP⟩ rfl rfl hl.1 rfl (lv_room (Nat.le_of_ble_eq_true rfl)) dX3_goesOn_194 ⟨Nat.le_of_ble_eq_true rfl, Nat.le_of_ble_eq_true rfl⟩)) (fun r9 e9 => ?_)
            rw [e9]
            refine lv_iconst (v := 1) hx hb dX3_goesOn_197 (by decide) ?_
            refine lv_icmp_eq (tgt := 214) hx hb dX3_goesOn_198 (by decide) (fun c_6 => ?_) (fun c_6 => ?_)
            · refine lv_iconst (v := 1) hx hb dX3_goesOn_214 (by decide) ?_
              refine lv_goto (tgt := 219) hx hb dX3_goesOn_215 (by decide) ?_
              refine lv_istore (lv' := [(6, .int 1), (5, .int 0), (4, .int 0), (0, .ref h), (1, .int ra), (2, .int rb), (3, .int (bI can))]) hx hb dX3_goesOn_219 hl (by decide) rfl (fun ls hl => ?_)
              refine lv_iload hx hb dX3_goesOn_221 (lv_at hl 0 rfl) ?_
              refine lv_if_eq (tgt := 234) hx hb dX3_goesOn_223 (by decide) (fun c_7 => ?_) (fun c_7 => ?_)
              · exact absurd c_7 (by decide)
              · refine lv_aload_n hx hb dX3_goesOn_226 rfl (lv_at hl 3 rfl) ?_
                refine lv_iconst (v := 2) hx hb dX3_goesOn_227 (by decide) ?_
                have hFc := va_free (wc := cMd h q1 q2 cA cB cd ct tf ff td an qb pa aT aF dg fi lo) hD hS hA [0, 1, 2] rfl
                refine va_calli (va_runV (As := [.int 2]) (rest := []) ⟨hx, hb, hml, hown, hts⟩ (c_X3_tell l D h q1 q2 cA cB cd ct tf ff td an qb pa aT aF dg fi lo 2 s.heap.size (by decide)) (cwV 1 hts gX3_goesOn_X3_tell rfl rfl rfl kV_X3_tell ⟨Nat.le_of_ble_eq_true rfl, Nat.le_of_ble_eq_true rfl⟩) ⟨MMB.blind, va_recv hK hP (ci := 2) (q0 := 0) rfl rfl, MMB.pre hK hP hD⟩ rfl rfl hl.1 rfl (lv_room (Nat.le_of_ble_eq_true rfl)) dX3_goesOn_228 ⟨Nat.le_of_ble_eq_true rfl, Nat.le_of_ble_eq_true rfl⟩) hS (fun q _ h9 => hFc q h9) hFc (fun r9 v_8 t9 H locs ht hvm hw hB hz1 hk1 hS => ?_)
                obtain rfl := hw
                obtain ⟨otd_9, e_10, hP, hD9⟩ := hB
                rw [ht] at hP
                have hD : va_D A (cMd h q1 q2 cA cB cd ct tf ff otd_9 an qb pa aT aF dg fi lo) := hD9.weaken (fun _ _ _ h => hFc _ h)
                refine lv_if_eq (tgt := 238) hx hb dX3_goesOn_231 (by decide) (fun c_11 => ?_) (fun c_11 => ?_)
                · refine lv_iconst (v := 0) hx hb dX3_goesOn_238 (by decide) ?_
                  have hw : M_goesOn ct td an aT aF (tf ra.toNatClampNeg) (ff ra.toNatClampNeg) rb (tf rb.toNatClampNeg) (ff rb.toNatClampNeg) can = (false, otd_9, an, aT, aF) := by unfold M_goesOn; rw [if_neg c_1, if_pos c_2, if_neg c_5, if_pos c_6, tup2_e e_10, if_pos c_11]; try rfl
                  exact W.zret hx hb hr rfl (fun t9 ht hW => ⟨⟨_, false, rfl, rfl, ⟨otd_9, an, aT, aF, hw, by rw [ht]; exact hP, hD⟩⟩, hS.F ht⟩) hS.2.2 dX3_goesOn_239
                · refine lv_iconst (v := 1) hx hb dX3_goesOn_234 (by decide) ?_
                  refine lv_goto (tgt := 239) hx hb dX3_goesOn_235 (by decide) ?_
                  have hw : M_goesOn ct td an aT aF (tf ra.toNatClampNeg) (ff ra.toNatClampNeg) rb (tf rb.toNatClampNeg) (ff rb.toNatClampNeg) can = (true, otd_9, an, aT, aF) := by unfold M_goesOn; rw [if_neg c_1, if_pos c_2, if_neg c_5, if_pos c_6, tup2_e e_10, if_neg c_11]; try rfl
                  exact W.zret hx hb hr rfl (fun t9 ht hW => ⟨⟨_, true, rfl, rfl, ⟨otd_9, an, aT, aF, hw, by rw [ht]; exact hP, hD⟩⟩, hS.F ht⟩) hS.2.2 dX3_goesOn_239
            · refine lv_iload_n hx hb dX3_goesOn_201 rfl (lv_at hl 4 rfl) ?_
              refine lv_if_lt (tgt := 218) hx hb dX3_goesOn_202 (by decide) (fun c_12 => ?_) (fun c_12 => ?_)
              · refine lv_iconst (v := 0) hx hb dX3_goesOn_218 (by decide) ?_
                refine lv_istore (lv' := [(6, .int 0), (5, .int 0), (4, .int 0), (0, .ref h), (1, .int ra), (2, .int rb), (3, .int (bI can))]) hx hb dX3_goesOn_219 hl (by decide) rfl (fun ls hl => ?_)
                refine lv_iload hx hb dX3_goesOn_221 (lv_at hl 0 rfl) ?_
                refine lv_if_eq (tgt := 234) hx hb dX3_goesOn_223 (by decide) (fun c_13 => ?_) (fun c_13 => ?_)
                · refine lv_iconst (v := 1) hx hb dX3_goesOn_234 (by decide) ?_
                  refine lv_goto (tgt := 239) hx hb dX3_goesOn_235 (by decide) ?_
                  have hw : M_goesOn ct td an aT aF (tf ra.toNatClampNeg) (ff ra.toNatClampNeg) rb (tf rb.toNatClampNeg) (ff rb.toNatClampNeg) can = (true, td, an, aT, aF) := by unfold M_goesOn; rw [if_neg c_1, if_pos c_2, if_neg c_5, if_neg c_6]; try rfl
                  exact W.zret hx hb hr rfl (fun t9 ht hW => ⟨⟨_, true, rfl, rfl, ⟨td, an, aT, aF, hw, by rw [ht]; exact hP, hD⟩⟩, hS.F ht⟩) hS.2.2 dX3_goesOn_239
                · exact absurd c_13 (by decide)
              · exact absurd c_2 c_12
          · refine lv_aload_n hx hb dX3_goesOn_173 rfl (lv_at hl 2 rfl) ?_
            refine lv_iconst (v := 1) hx hb dX3_goesOn_174 (by decide) ?_
            have hFc := va_free (wc := cMd h q1 q2 cA cB cd ct tf ff td an qb pa aT aF dg fi lo) hD hS hA [0, 1, 2] rfl
            refine va_calli (va_runV (As := [.int 1]) (rest := []) ⟨hx, hb, hml, hown, hts⟩ (c_X3_tell l D h q1 q2 cA cB cd ct tf ff td an qb pa aT aF dg fi lo 1 s.heap.size (by decide)) (cwV 1 hts gX3_goesOn_X3_tell rfl rfl rfl kV_X3_tell ⟨Nat.le_of_ble_eq_true rfl, Nat.le_of_ble_eq_true rfl⟩) ⟨MMB.blind, va_recv hK hP (ci := 2) (q0 := 0) rfl rfl, MMB.pre hK hP hD⟩ rfl rfl hl.1 rfl (lv_room (Nat.le_of_ble_eq_true rfl)) dX3_goesOn_175 ⟨Nat.le_of_ble_eq_true rfl, Nat.le_of_ble_eq_true rfl⟩) hS (fun q _ h9 => hFc q h9) hFc (fun r9 v_14 t9 H locs ht hvm hw hB hz1 hk1 hS => ?_)
            obtain rfl := hw
            obtain ⟨otd_15, e_16, hP, hD9⟩ := hB
            rw [ht] at hP
            have hD : va_D A (cMd h q1 q2 cA cB cd ct tf ff otd_15 an qb pa aT aF dg fi lo) := hD9.weaken (fun _ _ _ h => hFc _ h)
            refine lv_if_eq (tgt := 190) hx hb dX3_goesOn_178 (by decide) (fun c_17 => ?_) (fun c_17 => ?_)
            · refine lv_iconst (v := 0) hx hb dX3_goesOn_190 (by decide) ?_
              have hw : M_goesOn ct td an aT aF (tf ra.toNatClampNeg) (ff ra.toNatClampNeg) rb (tf rb.toNatClampNeg) (ff rb.toNatClampNeg) can = (false, otd_15, an, aT, aF) := by unfold M_goesOn; rw [if_neg c_1, if_pos c_2, if_pos c_5, tup2_e e_16, if_pos c_17]; try rfl
              exact W.zret hx hb hr rfl (fun t9 ht hW => ⟨⟨_, false, rfl, rfl, ⟨otd_15, an, aT, aF, hw, by rw [ht]; exact hP, hD⟩⟩, hS.F ht⟩) hS.2.2 dX3_goesOn_191
            · refine lv_aload_n hx hb dX3_goesOn_181 rfl (lv_at hl 2 rfl) ?_
              refine lv_ldc (v := 65535) hx hb hown w_1 dX3_goesOn_182 ?_
              refine lv_ldc2 (v := (-4611686018427387904)) hx hb hown w_2 dX3_goesOn_184 ?_
              have hFc := va_free (wc := cMd h q1 q2 cA cB cd ct tf ff otd_15 an qb pa aT aF dg fi lo) hD hS hA [0, 1, 2] rfl
              refine va_callv (va_runV (As := [.int 65535, .long (-4611686018427387904)]) (rest := []) ⟨hx, hb, hml, hown, hts⟩ (c_X3_answer l D h q1 q2 cA cB cd ct tf ff otd_15 an qb pa aT aF dg fi lo 65535 (-4611686018427387904) H.size) (cwV 2 hts gX3_goesOn_X3_answer rfl rfl rfl kV_X3_answer ⟨Nat.le_of_ble_eq_true rfl, Nat.le_of_ble_eq_true rfl⟩) ⟨MMB.blind, va_recv hK hP (ci := 2) (q0 := 0) rfl rfl, MMB.pre hK hP hD⟩ rfl rfl hl.1 rfl (lv_room (Nat.le_of_ble_eq_true rfl)) dX3_goesOn_187 ⟨Nat.le_of_ble_eq_true rfl, Nat.le_of_ble_eq_true rfl⟩) hS (fun q _ h9 => hFc q h9) hFc (fun u9 t9 H locs ht hvm hw hB hz1 hk1 hS => ?_)
              obtain ⟨oan_18, oaT_19, oaF_20, e_21, hP, hD9⟩ := hB
              rw [ht] at hP
              have hD : va_D A (cMd h q1 q2 cA cB cd ct tf ff otd_15 oan_18 qb pa oaT_19 oaF_20 dg fi lo) := hD9.weaken (fun _ _ _ h => hFc _ h)
              refine lv_iconst (v := 0) hx hb dX3_goesOn_190 (by decide) ?_
              have hw : M_goesOn ct td an aT aF (tf ra.toNatClampNeg) (ff ra.toNatClampNeg) rb (tf rb.toNatClampNeg) (ff rb.toNatClampNeg) can = (false, otd_15, oan_18, oaT_19, oaF_20) := by unfold M_goesOn; rw [if_neg c_1, if_pos c_2, if_pos c_5, tup2_e e_16, if_neg c_17, tup3_e e_21]; try rfl
              exact W.zret hx hb hr rfl (fun t9 ht hW => ⟨⟨_, false, rfl, rfl, ⟨otd_15, oan_18, oaT_19, oaF_20, hw, by rw [ht]; exact hP, hD⟩⟩, hS.F ht⟩) hS.2.2 dX3_goesOn_191
        · exact absurd c_4 (by decide)
    · refine lv_aload_n hx hb dX3_goesOn_20 rfl (lv_at hl 1 rfl) ?_
      refine lv_iload_n hx hb dX3_goesOn_21 rfl (lv_at hl 3 rfl) ?_
      refine vp_callSi (va_cr (va_runV (As := [.int rb]) (rest := []) ⟨hx, hb, hml, hown, hts⟩ (c_X3_kind l D h q1 q2 cA cB cd ct tf ff td an qb pa aT aF dg fi lo rb (hrb c_2)) (cwV 1 hts gX3_goesOn_X3_kind rfl rfl rfl kV_X3_kind ⟨Nat.le_of_ble_eq_true rfl, Nat.le_of_ble_eq_true rfl⟩) ⟨PB.blind, va_recv hK hP (ci := 2) (q0 := 0) rfl rfl, PB.pre hK hP⟩ rfl rfl hl.1 rfl (lv_room (Nat.le_of_ble_eq_true rfl)) dX3_goesOn_22 ⟨Nat.le_of_ble_eq_true rfl, Nat.le_of_ble_eq_true rfl⟩)) (fun r9 e9 => ?_)
      rw [e9]
      refine lv_iconst (v := 5) hx hb dX3_goesOn_25 (by decide) ?_
      refine lv_icmp_ne (tgt := 33) hx hb dX3_goesOn_26 (by decide) (fun c_22 => ?_) (fun c_22 => ?_)
      · refine lv_iconst (v := 0) hx hb dX3_goesOn_33 (by decide) ?_
        refine lv_istore (lv' := [(5, .int 0), (4, .int 0), (0, .ref h), (1, .int ra), (2, .int rb), (3, .int (bI can))]) hx hb dX3_goesOn_34 hl (by decide) rfl (fun ls hl => ?_)
        refine lv_iload hx hb dX3_goesOn_36 (lv_at hl 1 rfl) ?_
        refine lv_if_ne (tgt := 46) hx hb dX3_goesOn_38 (by decide) (fun c_23 => ?_) (fun c_23 => ?_)
        · exact absurd c_23 (by decide)
        · refine lv_iload hx hb dX3_goesOn_41 (lv_at hl 0 rfl) ?_
          refine lv_if_eq (tgt := 169) hx hb dX3_goesOn_43 (by decide) (fun c_24 => ?_) (fun c_24 => ?_)
          · refine lv_iload_n hx hb dX3_goesOn_169 rfl (lv_at hl 5 rfl) ?_
            refine lv_if_ne (tgt := 192) hx hb dX3_goesOn_170 (by decide) (fun c_25 => ?_) (fun c_25 => ?_)
            · refine lv_aload_n hx hb dX3_goesOn_192 rfl (lv_at hl 2 rfl) ?_
              refine lv_iload_n hx hb dX3_goesOn_193 rfl (lv_at hl 3 rfl) ?_
              refine vp_callSi (va_cr (va_runV (As := [.int ra]) (rest := []) ⟨hx, hb, hml, hown, hts⟩ (c_X3_kind l D h q1 q2 cA cB cd ct tf ff td an qb pa aT aF dg fi lo ra hra) (cwV 1 hts gX3_goesOn_X3_kind rfl rfl rfl kV_X3_kind ⟨Nat.le_of_ble_eq_true rfl, Nat.le_of_ble_eq_true rfl⟩) ⟨PB.blind, va_recv hK hP (ci := 2) (q0 := 0) rfl rfl, PB.pre hK hP⟩ rfl rfl hl.1 rfl (lv_room (Nat.le_of_ble_eq_true rfl)) dX3_goesOn_194 ⟨Nat.le_of_ble_eq_true rfl, Nat.le_of_ble_eq_true rfl⟩)) (fun r9 e9 => ?_)
              rw [e9]
              refine lv_iconst (v := 1) hx hb dX3_goesOn_197 (by decide) ?_
              refine lv_icmp_eq (tgt := 214) hx hb dX3_goesOn_198 (by decide) (fun c_26 => ?_) (fun c_26 => ?_)
              · refine lv_iconst (v := 1) hx hb dX3_goesOn_214 (by decide) ?_
                refine lv_goto (tgt := 219) hx hb dX3_goesOn_215 (by decide) ?_
                refine lv_istore (lv' := [(6, .int 1), (5, .int 0), (4, .int 0), (0, .ref h), (1, .int ra), (2, .int rb), (3, .int (bI can))]) hx hb dX3_goesOn_219 hl (by decide) rfl (fun ls hl => ?_)
                refine lv_iload hx hb dX3_goesOn_221 (lv_at hl 0 rfl) ?_
                refine lv_if_eq (tgt := 234) hx hb dX3_goesOn_223 (by decide) (fun c_27 => ?_) (fun c_27 => ?_)
                · exact absurd c_27 (by decide)
                · refine lv_aload_n hx hb dX3_goesOn_226 rfl (lv_at hl 3 rfl) ?_
                  refine lv_iconst (v := 2) hx hb dX3_goesOn_227 (by decide) ?_
                  have hFc := va_free (wc := cMd h q1 q2 cA cB cd ct tf ff td an qb pa aT aF dg fi lo) hD hS hA [0, 1, 2] rfl
                  refine va_calli (va_runV (As := [.int 2]) (rest := []) ⟨hx, hb, hml, hown, hts⟩ (c_X3_tell l D h q1 q2 cA cB cd ct tf ff td an qb pa aT aF dg fi lo 2 s.heap.size (by decide)) (cwV 1 hts gX3_goesOn_X3_tell rfl rfl rfl kV_X3_tell ⟨Nat.le_of_ble_eq_true rfl, Nat.le_of_ble_eq_true rfl⟩) ⟨MMB.blind, va_recv hK hP (ci := 2) (q0 := 0) rfl rfl, MMB.pre hK hP hD⟩ rfl rfl hl.1 rfl (lv_room (Nat.le_of_ble_eq_true rfl)) dX3_goesOn_228 ⟨Nat.le_of_ble_eq_true rfl, Nat.le_of_ble_eq_true rfl⟩) hS (fun q _ h9 => hFc q h9) hFc (fun r9 v_28 t9 H locs ht hvm hw hB hz1 hk1 hS => ?_)
                  obtain rfl := hw
                  obtain ⟨otd_29, e_30, hP, hD9⟩ := hB
                  rw [ht] at hP
                  have hD : va_D A (cMd h q1 q2 cA cB cd ct tf ff otd_29 an qb pa aT aF dg fi lo) := hD9.weaken (fun _ _ _ h => hFc _ h)
                  refine lv_if_eq (tgt := 238) hx hb dX3_goesOn_231 (by decide) (fun c_31 => ?_) (fun c_31 => ?_)
                  · refine lv_iconst (v := 0) hx hb dX3_goesOn_238 (by decide) ?_
                    have hw : M_goesOn ct td an aT aF (tf ra.toNatClampNeg) (ff ra.toNatClampNeg) rb (tf rb.toNatClampNeg) (ff rb.toNatClampNeg) can = (false, otd_29, an, aT, aF) := by unfold M_goesOn; rw [if_neg c_1, if_neg c_2, if_neg c_22, if_neg c_25, if_pos c_26, tup2_e e_30, if_pos c_31]; try rfl
                    exact W.zret hx hb hr rfl (fun t9 ht hW => ⟨⟨_, false, rfl, rfl, ⟨otd_29, an, aT, aF, hw, by rw [ht]; exact hP, hD⟩⟩, hS.F ht⟩) hS.2.2 dX3_goesOn_239
                  · refine lv_iconst (v := 1) hx hb dX3_goesOn_234 (by decide) ?_
                    refine lv_goto (tgt := 239) hx hb dX3_goesOn_235 (by decide) ?_
                    have hw : M_goesOn ct td an aT aF (tf ra.toNatClampNeg) (ff ra.toNatClampNeg) rb (tf rb.toNatClampNeg) (ff rb.toNatClampNeg) can = (true, otd_29, an, aT, aF) := by unfold M_goesOn; rw [if_neg c_1, if_neg c_2, if_neg c_22, if_neg c_25, if_pos c_26, tup2_e e_30, if_neg c_31]; try rfl
                    exact W.zret hx hb hr rfl (fun t9 ht hW => ⟨⟨_, true, rfl, rfl, ⟨otd_29, an, aT, aF, hw, by rw [ht]; exact hP, hD⟩⟩, hS.F ht⟩) hS.2.2 dX3_goesOn_239
              · refine lv_iload_n hx hb dX3_goesOn_201 rfl (lv_at hl 4 rfl) ?_
                refine lv_if_lt (tgt := 218) hx hb dX3_goesOn_202 (by decide) (fun c_32 => ?_) (fun c_32 => ?_)
                · exact absurd c_32 c_2
                · refine lv_aload_n hx hb dX3_goesOn_205 rfl (lv_at hl 2 rfl) ?_
                  refine lv_iload_n hx hb dX3_goesOn_206 rfl (lv_at hl 4 rfl) ?_
                  refine vp_callSi (va_cr (va_runV (As := [.int rb]) (rest := []) ⟨hx, hb, hml, hown, hts⟩ (c_X3_kind l D h q1 q2 cA cB cd ct tf ff td an qb pa aT aF dg fi lo rb (hrb c_2)) (cwV 1 hts gX3_goesOn_X3_kind rfl rfl rfl kV_X3_kind ⟨Nat.le_of_ble_eq_true rfl, Nat.le_of_ble_eq_true rfl⟩) ⟨PB.blind, va_recv hK hP (ci := 2) (q0 := 0) rfl rfl, PB.pre hK hP⟩ rfl rfl hl.1 rfl (lv_room (Nat.le_of_ble_eq_true rfl)) dX3_goesOn_207 ⟨Nat.le_of_ble_eq_true rfl, Nat.le_of_ble_eq_true rfl⟩)) (fun r9 e9 => ?_)
                  rw [e9]
                  refine lv_iconst (v := 1) hx hb dX3_goesOn_210 (by decide) ?_
                  refine lv_icmp_ne (tgt := 218) hx hb dX3_goesOn_211 (by decide) (fun c_33 => ?_) (fun c_33 => ?_)
                  · refine lv_iconst (v := 0) hx hb dX3_goesOn_218 (by decide) ?_
                    refine lv_istore (lv' := [(6, .int 0), (5, .int 0), (4, .int 0), (0, .ref h), (1, .int ra), (2, .int rb), (3, .int (bI can))]) hx hb dX3_goesOn_219 hl (by decide) rfl (fun ls hl => ?_)
                    refine lv_iload hx hb dX3_goesOn_221 (lv_at hl 0 rfl) ?_
                    refine lv_if_eq (tgt := 234) hx hb dX3_goesOn_223 (by decide) (fun c_34 => ?_) (fun c_34 => ?_)
                    · refine lv_iconst (v := 1) hx hb dX3_goesOn_234 (by decide) ?_
                      refine lv_goto (tgt := 239) hx hb dX3_goesOn_235 (by decide) ?_
                      have hw : M_goesOn ct td an aT aF (tf ra.toNatClampNeg) (ff ra.toNatClampNeg) rb (tf rb.toNatClampNeg) (ff rb.toNatClampNeg) can = (true, td, an, aT, aF) := by unfold M_goesOn; rw [if_neg c_1, if_neg c_2, if_neg c_22, if_neg c_25, if_neg c_26, if_neg c_33]; try rfl
                      exact W.zret hx hb hr rfl (fun t9 ht hW => ⟨⟨_, true, rfl, rfl, ⟨td, an, aT, aF, hw, by rw [ht]; exact hP, hD⟩⟩, hS.F ht⟩) hS.2.2 dX3_goesOn_239
                    · exact absurd c_34 (by decide)
                  · refine lv_iconst (v := 1) hx hb dX3_goesOn_214 (by decide) ?_
                    refine lv_goto (tgt := 219) hx hb dX3_goesOn_215 (by decide) ?_
                    refine lv_istore (lv' := [(6, .int 1), (5, .int 0), (4, .int 0), (0, .ref h), (1, .int ra), (2, .int rb), (3, .int (bI can))]) hx hb dX3_goesOn_219 hl (by decide) rfl (fun ls hl => ?_)
                    refine lv_iload hx hb dX3_goesOn_221 (lv_at hl 0 rfl) ?_
                    refine lv_if_eq (tgt := 234) hx hb dX3_goesOn_223 (by decide) (fun c_35 => ?_) (fun c_35 => ?_)
                    · exact absurd c_35 (by decide)
                    · refine lv_aload_n hx hb dX3_goesOn_226 rfl (lv_at hl 3 rfl) ?_
                      refine lv_iconst (v := 2) hx hb dX3_goesOn_227 (by decide) ?_
                      have hFc := va_free (wc := cMd h q1 q2 cA cB cd ct tf ff td an qb pa aT aF dg fi lo) hD hS hA [0, 1, 2] rfl
                      refine va_calli (va_runV (As := [.int 2]) (rest := []) ⟨hx, hb, hml, hown, hts⟩ (c_X3_tell l D h q1 q2 cA cB cd ct tf ff td an qb pa aT aF dg fi lo 2 s.heap.size (by decide)) (cwV 1 hts gX3_goesOn_X3_tell rfl rfl rfl kV_X3_tell ⟨Nat.le_of_ble_eq_true rfl, Nat.le_of_ble_eq_true rfl⟩) ⟨MMB.blind, va_recv hK hP (ci := 2) (q0 := 0) rfl rfl, MMB.pre hK hP hD⟩ rfl rfl hl.1 rfl (lv_room (Nat.le_of_ble_eq_true rfl)) dX3_goesOn_228 ⟨Nat.le_of_ble_eq_true rfl, Nat.le_of_ble_eq_true rfl⟩) hS (fun q _ h9 => hFc q h9) hFc (fun r9 v_36 t9 H locs ht hvm hw hB hz1 hk1 hS => ?_)
                      obtain rfl := hw
                      obtain ⟨otd_37, e_38, hP, hD9⟩ := hB
                      rw [ht] at hP
                      have hD : va_D A (cMd h q1 q2 cA cB cd ct tf ff otd_37 an qb pa aT aF dg fi lo) := hD9.weaken (fun _ _ _ h => hFc _ h)
                      refine lv_if_eq (tgt := 238) hx hb dX3_goesOn_231 (by decide) (fun c_39 => ?_) (fun c_39 => ?_)
                      · refine lv_iconst (v := 0) hx hb dX3_goesOn_238 (by decide) ?_
                        have hw : M_goesOn ct td an aT aF (tf ra.toNatClampNeg) (ff ra.toNatClampNeg) rb (tf rb.toNatClampNeg) (ff rb.toNatClampNeg) can = (false, otd_37, an, aT, aF) := by unfold M_goesOn; rw [if_neg c_1, if_neg c_2, if_neg c_22, if_neg c_25, if_neg c_26, if_pos c_33, tup2_e e_38, if_pos c_39]; try rfl
                        exact W.zret hx hb hr rfl (fun t9 ht hW => ⟨⟨_, false, rfl, rfl, ⟨otd_37, an, aT, aF, hw, by rw [ht]; exact hP, hD⟩⟩, hS.F ht⟩) hS.2.2 dX3_goesOn_239
                      · refine lv_iconst (v := 1) hx hb dX3_goesOn_234 (by decide) ?_
                        refine lv_goto (tgt := 239) hx hb dX3_goesOn_235 (by decide) ?_
                        have hw : M_goesOn ct td an aT aF (tf ra.toNatClampNeg) (ff ra.toNatClampNeg) rb (tf rb.toNatClampNeg) (ff rb.toNatClampNeg) can = (true, otd_37, an, aT, aF) := by unfold M_goesOn; rw [if_neg c_1, if_neg c_2, if_neg c_22, if_neg c_25, if_neg c_26, if_pos c_33, tup2_e e_38, if_neg c_39]; try rfl
                        exact W.zret hx hb hr rfl (fun t9 ht hW => ⟨⟨_, true, rfl, rfl, ⟨otd_37, an, aT, aF, hw, by rw [ht]; exact hP, hD⟩⟩, hS.F ht⟩) hS.2.2 dX3_goesOn_239
            · refine lv_aload_n hx hb dX3_goesOn_173 rfl (lv_at hl 2 rfl) ?_
              refine lv_iconst (v := 1) hx hb dX3_goesOn_174 (by decide) ?_
              have hFc := va_free (wc := cMd h q1 q2 cA cB cd ct tf ff td an qb pa aT aF dg fi lo) hD hS hA [0, 1, 2] rfl
              refine va_calli (va_runV (As := [.int 1]) (rest := []) ⟨hx, hb, hml, hown, hts⟩ (c_X3_tell l D h q1 q2 cA cB cd ct tf ff td an qb pa aT aF dg fi lo 1 s.heap.size (by decide)) (cwV 1 hts gX3_goesOn_X3_tell rfl rfl rfl kV_X3_tell ⟨Nat.le_of_ble_eq_true rfl, Nat.le_of_ble_eq_true rfl⟩) ⟨MMB.blind, va_recv hK hP (ci := 2) (q0 := 0) rfl rfl, MMB.pre hK hP hD⟩ rfl rfl hl.1 rfl (lv_room (Nat.le_of_ble_eq_true rfl)) dX3_goesOn_175 ⟨Nat.le_of_ble_eq_true rfl, Nat.le_of_ble_eq_true rfl⟩) hS (fun q _ h9 => hFc q h9) hFc (fun r9 v_40 t9 H locs ht hvm hw hB hz1 hk1 hS => ?_)
              obtain rfl := hw
              obtain ⟨otd_41, e_42, hP, hD9⟩ := hB
              rw [ht] at hP
              have hD : va_D A (cMd h q1 q2 cA cB cd ct tf ff otd_41 an qb pa aT aF dg fi lo) := hD9.weaken (fun _ _ _ h => hFc _ h)
              refine lv_if_eq (tgt := 190) hx hb dX3_goesOn_178 (by decide) (fun c_43 => ?_) (fun c_43 => ?_)
              · refine lv_iconst (v := 0) hx hb dX3_goesOn_190 (by decide) ?_
                have hw : M_goesOn ct td an aT aF (tf ra.toNatClampNeg) (ff ra.toNatClampNeg) rb (tf rb.toNatClampNeg) (ff rb.toNatClampNeg) can = (false, otd_41, an, aT, aF) := by unfold M_goesOn; rw [if_neg c_1, if_neg c_2, if_neg c_22, if_pos c_25, tup2_e e_42, if_pos c_43]; try rfl
                exact W.zret hx hb hr rfl (fun t9 ht hW => ⟨⟨_, false, rfl, rfl, ⟨otd_41, an, aT, aF, hw, by rw [ht]; exact hP, hD⟩⟩, hS.F ht⟩) hS.2.2 dX3_goesOn_191
              · refine lv_aload_n hx hb dX3_goesOn_181 rfl (lv_at hl 2 rfl) ?_
                refine lv_ldc (v := 65535) hx hb hown w_1 dX3_goesOn_182 ?_
                refine lv_ldc2 (v := (-4611686018427387904)) hx hb hown w_2 dX3_goesOn_184 ?_
                have hFc := va_free (wc := cMd h q1 q2 cA cB cd ct tf ff otd_41 an qb pa aT aF dg fi lo) hD hS hA [0, 1, 2] rfl
                refine va_callv (va_runV (As := [.int 65535, .long (-4611686018427387904)]) (rest := []) ⟨hx, hb, hml, hown, hts⟩ (c_X3_answer l D h q1 q2 cA cB cd ct tf ff otd_41 an qb pa aT aF dg fi lo 65535 (-4611686018427387904) H.size) (cwV 2 hts gX3_goesOn_X3_answer rfl rfl rfl kV_X3_answer ⟨Nat.le_of_ble_eq_true rfl, Nat.le_of_ble_eq_true rfl⟩) ⟨MMB.blind, va_recv hK hP (ci := 2) (q0 := 0) rfl rfl, MMB.pre hK hP hD⟩ rfl rfl hl.1 rfl (lv_room (Nat.le_of_ble_eq_true rfl)) dX3_goesOn_187 ⟨Nat.le_of_ble_eq_true rfl, Nat.le_of_ble_eq_true rfl⟩) hS (fun q _ h9 => hFc q h9) hFc (fun u9 t9 H locs ht hvm hw hB hz1 hk1 hS => ?_)
                obtain ⟨oan_44, oaT_45, oaF_46, e_47, hP, hD9⟩ := hB
                rw [ht] at hP
                have hD : va_D A (cMd h q1 q2 cA cB cd ct tf ff otd_41 oan_44 qb pa oaT_45 oaF_46 dg fi lo) := hD9.weaken (fun _ _ _ h => hFc _ h)
                refine lv_iconst (v := 0) hx hb dX3_goesOn_190 (by decide) ?_
                have hw : M_goesOn ct td an aT aF (tf ra.toNatClampNeg) (ff ra.toNatClampNeg) rb (tf rb.toNatClampNeg) (ff rb.toNatClampNeg) can = (false, otd_41, oan_44, oaT_45, oaF_46) := by unfold M_goesOn; rw [if_neg c_1, if_neg c_2, if_neg c_22, if_pos c_25, tup2_e e_42, if_neg c_43, tup3_e e_47]; try rfl
                exact W.zret hx hb hr rfl (fun t9 ht hW => ⟨⟨_, false, rfl, rfl, ⟨otd_41, oan_44, oaT_45, oaF_46, hw, by rw [ht]; exact hP, hD⟩⟩, hS.F ht⟩) hS.2.2 dX3_goesOn_191
          · exact absurd c_24 (by decide)
      · refine lv_iconst (v := 1) hx hb dX3_goesOn_29 (by decide) ?_
        refine lv_goto (tgt := 34) hx hb dX3_goesOn_30 (by decide) ?_
        refine lv_istore (lv' := [(5, .int 1), (4, .int 0), (0, .ref h), (1, .int ra), (2, .int rb), (3, .int (bI can))]) hx hb dX3_goesOn_34 hl (by decide) rfl (fun ls hl => ?_)
        refine lv_iload hx hb dX3_goesOn_36 (lv_at hl 1 rfl) ?_
        refine lv_if_ne (tgt := 46) hx hb dX3_goesOn_38 (by decide) (fun c_48 => ?_) (fun c_48 => ?_)
        · exact absurd c_48 (by decide)
        · refine lv_iload hx hb dX3_goesOn_41 (lv_at hl 0 rfl) ?_
          refine lv_if_eq (tgt := 169) hx hb dX3_goesOn_43 (by decide) (fun c_49 => ?_) (fun c_49 => ?_)
          · exact absurd c_49 (by decide)
          · refine lv_iload hx hb dX3_goesOn_46 (lv_at hl 1 rfl) ?_
            refine lv_if_ne (tgt := 55) hx hb dX3_goesOn_48 (by decide) (fun c_50 => ?_) (fun c_50 => ?_)
            · exact absurd c_50 (by decide)
            · refine lv_iconst (v := 1) hx hb dX3_goesOn_51 (by decide) ?_
              refine lv_goto (tgt := 56) hx hb dX3_goesOn_52 (by decide) ?_
              refine lv_istore (lv' := [(6, .int 1), (5, .int 1), (4, .int 0), (0, .ref h), (1, .int ra), (2, .int rb), (3, .int (bI can))]) hx hb dX3_goesOn_56 hl (by decide) rfl (fun ls hl => ?_)
              refine lv_iload hx hb dX3_goesOn_58 (lv_at hl 2 rfl) ?_
              refine lv_if_eq (tgt := 125) hx hb dX3_goesOn_60 (by decide) (fun c_51 => ?_) (fun c_51 => ?_)
              · refine lv_aload_n hx hb dX3_goesOn_125 rfl (lv_at hl 3 rfl) ?_
                refine lv_iconst (v := 1) hx hb dX3_goesOn_126 (by decide) ?_
                have hFc := va_free (wc := cMd h q1 q2 cA cB cd ct tf ff td an qb pa aT aF dg fi lo) hD hS hA [0, 1, 2] rfl
                refine va_calli (va_runV (As := [.int 1]) (rest := []) ⟨hx, hb, hml, hown, hts⟩ (c_X3_tell l D h q1 q2 cA cB cd ct tf ff td an qb pa aT aF dg fi lo 1 s.heap.size (by decide)) (cwV 1 hts gX3_goesOn_X3_tell rfl rfl rfl kV_X3_tell ⟨Nat.le_of_ble_eq_true rfl, Nat.le_of_ble_eq_true rfl⟩) ⟨MMB.blind, va_recv hK hP (ci := 2) (q0 := 0) rfl rfl, MMB.pre hK hP hD⟩ rfl rfl hl.1 rfl (lv_room (Nat.le_of_ble_eq_true rfl)) dX3_goesOn_127 ⟨Nat.le_of_ble_eq_true rfl, Nat.le_of_ble_eq_true rfl⟩) hS (fun q _ h9 => hFc q h9) hFc (fun r9 v_52 t9 H locs ht hvm hw hB hz1 hk1 hS => ?_)
                obtain rfl := hw
                obtain ⟨otd_53, e_54, hP, hD9⟩ := hB
                rw [ht] at hP
                have hD : va_D A (cMd h q1 q2 cA cB cd ct tf ff otd_53 an qb pa aT aF dg fi lo) := hD9.weaken (fun _ _ _ h => hFc _ h)
                refine lv_if_eq (tgt := 167) hx hb dX3_goesOn_130 (by decide) (fun c_55 => ?_) (fun c_55 => ?_)
                · refine lv_iconst (v := 0) hx hb dX3_goesOn_167 (by decide) ?_
                  have hw : M_goesOn ct td an aT aF (tf ra.toNatClampNeg) (ff ra.toNatClampNeg) rb (tf rb.toNatClampNeg) (ff rb.toNatClampNeg) can = (false, otd_53, an, aT, aF) := by unfold M_goesOn; rw [if_neg c_1, if_neg c_2, if_pos c_22, tup2_e e_54, if_pos c_55]; try rfl
                  exact W.zret hx hb hr rfl (fun t9 ht hW => ⟨⟨_, false, rfl, rfl, ⟨otd_53, an, aT, aF, hw, by rw [ht]; exact hP, hD⟩⟩, hS.F ht⟩) hS.2.2 dX3_goesOn_168
                · refine lv_aload_n hx hb dX3_goesOn_133 rfl (lv_at hl 3 rfl) ?_
                  refine lv_aload_n hx hb dX3_goesOn_134 rfl (lv_at hl 3 rfl) ?_
                  refine va_get (v := .ref q1) (C := RX3) (T := TX3) (N := 13) hx hb hts in_X3 hown hK hP 0 rfl rfl 2 (by decide) w_3 (fun _ h9 => h9) rfl dX3_goesOn_135 ?_
                  refine lv_iload hx hb dX3_goesOn_138 (lv_at hl 0 rfl) ?_
                  refine lv_if_eq (tgt := 147) hx hb dX3_goesOn_140 (by decide) (fun c_56 => ?_) (fun c_56 => ?_)
                  · exact absurd c_56 (by decide)
                  · refine lv_iload_n hx hb dX3_goesOn_143 rfl (lv_at hl 5 rfl) ?_
                    refine lv_goto (tgt := 148) hx hb dX3_goesOn_144 (by decide) ?_
                    refine va_iald hx hb hK hP 1 0 rfl rfl (hrb c_2) dX3_goesOn_148 ?_
                    refine lv_aload_n hx hb dX3_goesOn_149 rfl (lv_at hl 3 rfl) ?_
                    refine va_get (v := .ref q2) (C := RX3) (T := TX3) (N := 13) hx hb hts in_X3 hown hK hP 0 rfl rfl 3 (by decide) w_5 (fun _ h9 => h9) rfl dX3_goesOn_150 ?_
                    refine lv_iload hx hb dX3_goesOn_153 (lv_at hl 0 rfl) ?_
                    refine lv_if_eq (tgt := 162) hx hb dX3_goesOn_155 (by decide) (fun c_57 => ?_) (fun c_57 => ?_)
                    · exact absurd c_57 (by decide)
                    · refine lv_iload_n hx hb dX3_goesOn_158 rfl (lv_at hl 5 rfl) ?_
                      refine lv_goto (tgt := 163) hx hb dX3_goesOn_159 (by decide) ?_
                      refine va_lald hx hb hK hP 2 1 rfl rfl (hrb c_2) dX3_goesOn_163 ?_
                      have hFc := va_free (wc := cMd h q1 q2 cA cB cd ct tf ff otd_53 an qb pa aT aF dg fi lo) hD hS hA [0, 1, 2] rfl
                      refine va_callv (va_runV (As := [.int (tf rb.toNatClampNeg), .long (ff rb.toNatClampNeg)]) (rest := []) ⟨hx, hb, hml, hown, hts⟩ (c_X3_answer l D h q1 q2 cA cB cd ct tf ff otd_53 an qb pa aT aF dg fi lo (tf rb.toNatClampNeg) (ff rb.toNatClampNeg) H.size) (cwV 2 hts gX3_goesOn_X3_answer rfl rfl rfl kV_X3_answer ⟨Nat.le_of_ble_eq_true rfl, Nat.le_of_ble_eq_true rfl⟩) ⟨MMB.blind, va_recv hK hP (ci := 2) (q0 := 0) rfl rfl, MMB.pre hK hP hD⟩ rfl rfl hl.1 rfl (lv_room (Nat.le_of_ble_eq_true rfl)) dX3_goesOn_164 ⟨Nat.le_of_ble_eq_true rfl, Nat.le_of_ble_eq_true rfl⟩) hS (fun q _ h9 => hFc q h9) hFc (fun u9 t9 H locs ht hvm hw hB hz1 hk1 hS => ?_)
                      obtain ⟨oan_58, oaT_59, oaF_60, e_61, hP, hD9⟩ := hB
                      rw [ht] at hP
                      have hD : va_D A (cMd h q1 q2 cA cB cd ct tf ff otd_53 oan_58 qb pa oaT_59 oaF_60 dg fi lo) := hD9.weaken (fun _ _ _ h => hFc _ h)
                      refine lv_iconst (v := 0) hx hb dX3_goesOn_167 (by decide) ?_
                      have hw : M_goesOn ct td an aT aF (tf ra.toNatClampNeg) (ff ra.toNatClampNeg) rb (tf rb.toNatClampNeg) (ff rb.toNatClampNeg) can = (false, otd_53, oan_58, oaT_59, oaF_60) := by unfold M_goesOn; rw [if_neg c_1, if_neg c_2, if_pos c_22, tup2_e e_54, if_neg c_55, tup3_e e_61]; try rfl
                      exact W.zret hx hb hr rfl (fun t9 ht hW => ⟨⟨_, false, rfl, rfl, ⟨otd_53, oan_58, oaT_59, oaF_60, hw, by rw [ht]; exact hP, hD⟩⟩, hS.F ht⟩) hS.2.2 dX3_goesOn_168
              · exact absurd c_51 (by decide)
  · refine lv_iconst (v := 1) hx hb dX3_goesOn_9 (by decide) ?_
    refine lv_goto (tgt := 14) hx hb dX3_goesOn_10 (by decide) ?_
    refine lv_istore (lv' := [(4, .int 1), (0, .ref h), (1, .int ra), (2, .int rb), (3, .int (bI can))]) hx hb dX3_goesOn_14 hl (by decide) rfl (fun ls hl => ?_)
    refine lv_iload_n hx hb dX3_goesOn_16 rfl (lv_at hl 3 rfl) ?_
    refine lv_if_lt (tgt := 33) hx hb dX3_goesOn_17 (by decide) (fun c_62 => ?_) (fun c_62 => ?_)
    · refine lv_iconst (v := 0) hx hb dX3_goesOn_33 (by decide) ?_
      refine lv_istore (lv' := [(5, .int 0), (4, .int 1), (0, .ref h), (1, .int ra), (2, .int rb), (3, .int (bI can))]) hx hb dX3_goesOn_34 hl (by decide) rfl (fun ls hl => ?_)
      refine lv_iload hx hb dX3_goesOn_36 (lv_at hl 1 rfl) ?_
      refine lv_if_ne (tgt := 46) hx hb dX3_goesOn_38 (by decide) (fun c_63 => ?_) (fun c_63 => ?_)
      · refine lv_iload hx hb dX3_goesOn_46 (lv_at hl 1 rfl) ?_
        refine lv_if_ne (tgt := 55) hx hb dX3_goesOn_48 (by decide) (fun c_64 => ?_) (fun c_64 => ?_)
        · refine lv_iconst (v := 0) hx hb dX3_goesOn_55 (by decide) ?_
          refine lv_istore (lv' := [(6, .int 0), (5, .int 0), (4, .int 1), (0, .ref h), (1, .int ra), (2, .int rb), (3, .int (bI can))]) hx hb dX3_goesOn_56 hl (by decide) rfl (fun ls hl => ?_)
          refine lv_iload hx hb dX3_goesOn_58 (lv_at hl 2 rfl) ?_
          refine lv_if_eq (tgt := 125) hx hb dX3_goesOn_60 (by decide) (fun c_65 => ?_) (fun c_65 => ?_)
          · exact absurd c_65 (by decide)
          · refine lv_iload hx hb dX3_goesOn_63 (lv_at hl 1 rfl) ?_
            refine lv_if_eq (tgt := 125) hx hb dX3_goesOn_65 (by decide) (fun c_66 => ?_) (fun c_66 => ?_)
            · refine lv_aload_n hx hb dX3_goesOn_125 rfl (lv_at hl 3 rfl) ?_
              refine lv_iconst (v := 1) hx hb dX3_goesOn_126 (by decide) ?_
              have hFc := va_free (wc := cMd h q1 q2 cA cB cd ct tf ff td an qb pa aT aF dg fi lo) hD hS hA [0, 1, 2] rfl
              refine va_calli (va_runV (As := [.int 1]) (rest := []) ⟨hx, hb, hml, hown, hts⟩ (c_X3_tell l D h q1 q2 cA cB cd ct tf ff td an qb pa aT aF dg fi lo 1 s.heap.size (by decide)) (cwV 1 hts gX3_goesOn_X3_tell rfl rfl rfl kV_X3_tell ⟨Nat.le_of_ble_eq_true rfl, Nat.le_of_ble_eq_true rfl⟩) ⟨MMB.blind, va_recv hK hP (ci := 2) (q0 := 0) rfl rfl, MMB.pre hK hP hD⟩ rfl rfl hl.1 rfl (lv_room (Nat.le_of_ble_eq_true rfl)) dX3_goesOn_127 ⟨Nat.le_of_ble_eq_true rfl, Nat.le_of_ble_eq_true rfl⟩) hS (fun q _ h9 => hFc q h9) hFc (fun r9 v_67 t9 H locs ht hvm hw hB hz1 hk1 hS => ?_)
              obtain rfl := hw
              obtain ⟨otd_68, e_69, hP, hD9⟩ := hB
              rw [ht] at hP
              have hD : va_D A (cMd h q1 q2 cA cB cd ct tf ff otd_68 an qb pa aT aF dg fi lo) := hD9.weaken (fun _ _ _ h => hFc _ h)
              refine lv_if_eq (tgt := 167) hx hb dX3_goesOn_130 (by decide) (fun c_70 => ?_) (fun c_70 => ?_)
              · refine lv_iconst (v := 0) hx hb dX3_goesOn_167 (by decide) ?_
                have hw : M_goesOn ct td an aT aF (tf ra.toNatClampNeg) (ff ra.toNatClampNeg) rb (tf rb.toNatClampNeg) (ff rb.toNatClampNeg) can = (false, otd_68, an, aT, aF) := by unfold M_goesOn; rw [if_pos c_1, if_pos c_62, tup2_e e_69, if_pos c_70]; try rfl
                exact W.zret hx hb hr rfl (fun t9 ht hW => ⟨⟨_, false, rfl, rfl, ⟨otd_68, an, aT, aF, hw, by rw [ht]; exact hP, hD⟩⟩, hS.F ht⟩) hS.2.2 dX3_goesOn_168
              · refine lv_aload_n hx hb dX3_goesOn_133 rfl (lv_at hl 3 rfl) ?_
                refine lv_aload_n hx hb dX3_goesOn_134 rfl (lv_at hl 3 rfl) ?_
                refine va_get (v := .ref q1) (C := RX3) (T := TX3) (N := 13) hx hb hts in_X3 hown hK hP 0 rfl rfl 2 (by decide) w_3 (fun _ h9 => h9) rfl dX3_goesOn_135 ?_
                refine lv_iload hx hb dX3_goesOn_138 (lv_at hl 0 rfl) ?_
                refine lv_if_eq (tgt := 147) hx hb dX3_goesOn_140 (by decide) (fun c_71 => ?_) (fun c_71 => ?_)
                · refine lv_iload_n hx hb dX3_goesOn_147 rfl (lv_at hl 4 rfl) ?_
                  refine va_iald hx hb hK hP 1 0 rfl rfl hra dX3_goesOn_148 ?_
                  refine lv_aload_n hx hb dX3_goesOn_149 rfl (lv_at hl 3 rfl) ?_
                  refine va_get (v := .ref q2) (C := RX3) (T := TX3) (N := 13) hx hb hts in_X3 hown hK hP 0 rfl rfl 3 (by decide) w_5 (fun _ h9 => h9) rfl dX3_goesOn_150 ?_
                  refine lv_iload hx hb dX3_goesOn_153 (lv_at hl 0 rfl) ?_
                  refine lv_if_eq (tgt := 162) hx hb dX3_goesOn_155 (by decide) (fun c_72 => ?_) (fun c_72 => ?_)
                  · refine lv_iload_n hx hb dX3_goesOn_162 rfl (lv_at hl 4 rfl) ?_
                    refine va_lald hx hb hK hP 2 1 rfl rfl hra dX3_goesOn_163 ?_
                    have hFc := va_free (wc := cMd h q1 q2 cA cB cd ct tf ff otd_68 an qb pa aT aF dg fi lo) hD hS hA [0, 1, 2] rfl
                    refine va_callv (va_runV (As := [.int (tf ra.toNatClampNeg), .long (ff ra.toNatClampNeg)]) (rest := []) ⟨hx, hb, hml, hown, hts⟩ (c_X3_answer l D h q1 q2 cA cB cd ct tf ff otd_68 an qb pa aT aF dg fi lo (tf ra.toNatClampNeg) (ff ra.toNatClampNeg) H.size) (cwV 2 hts gX3_goesOn_X3_answer rfl rfl rfl kV_X3_answer ⟨Nat.le_of_ble_eq_true rfl, Nat.le_of_ble_eq_true rfl⟩) ⟨MMB.blind, va_recv hK hP (ci := 2) (q0 := 0) rfl rfl, MMB.pre hK hP hD⟩ rfl rfl hl.1 rfl (lv_room (Nat.le_of_ble_eq_true rfl)) dX3_goesOn_164 ⟨Nat.le_of_ble_eq_true rfl, Nat.le_of_ble_eq_true rfl⟩) hS (fun q _ h9 => hFc q h9) hFc (fun u9 t9 H locs ht hvm hw hB hz1 hk1 hS => ?_)
                    obtain ⟨oan_73, oaT_74, oaF_75, e_76, hP, hD9⟩ := hB
                    rw [ht] at hP
                    have hD : va_D A (cMd h q1 q2 cA cB cd ct tf ff otd_68 oan_73 qb pa oaT_74 oaF_75 dg fi lo) := hD9.weaken (fun _ _ _ h => hFc _ h)
                    refine lv_iconst (v := 0) hx hb dX3_goesOn_167 (by decide) ?_
                    have hw : M_goesOn ct td an aT aF (tf ra.toNatClampNeg) (ff ra.toNatClampNeg) rb (tf rb.toNatClampNeg) (ff rb.toNatClampNeg) can = (false, otd_68, oan_73, oaT_74, oaF_75) := by unfold M_goesOn; rw [if_pos c_1, if_pos c_62, tup2_e e_69, if_neg c_70, tup3_e e_76]; try rfl
                    exact W.zret hx hb hr rfl (fun t9 ht hW => ⟨⟨_, false, rfl, rfl, ⟨otd_68, oan_73, oaT_74, oaF_75, hw, by rw [ht]; exact hP, hD⟩⟩, hS.F ht⟩) hS.2.2 dX3_goesOn_168
                  · exact absurd c_72 (by decide)
                · exact absurd c_71 (by decide)
            · exact absurd c_66 (by decide)
        · exact absurd c_64 (by decide)
      · exact absurd c_63 (by decide)
    · refine lv_aload_n hx hb dX3_goesOn_20 rfl (lv_at hl 1 rfl) ?_
      refine lv_iload_n hx hb dX3_goesOn_21 rfl (lv_at hl 3 rfl) ?_
      refine vp_callSi (va_cr (va_runV (As := [.int rb]) (rest := []) ⟨hx, hb, hml, hown, hts⟩ (c_X3_kind l D h q1 q2 cA cB cd ct tf ff td an qb pa aT aF dg fi lo rb (hrb c_62)) (cwV 1 hts gX3_goesOn_X3_kind rfl rfl rfl kV_X3_kind ⟨Nat.le_of_ble_eq_true rfl, Nat.le_of_ble_eq_true rfl⟩) ⟨PB.blind, va_recv hK hP (ci := 2) (q0 := 0) rfl rfl, PB.pre hK hP⟩ rfl rfl hl.1 rfl (lv_room (Nat.le_of_ble_eq_true rfl)) dX3_goesOn_22 ⟨Nat.le_of_ble_eq_true rfl, Nat.le_of_ble_eq_true rfl⟩)) (fun r9 e9 => ?_)
      rw [e9]
      refine lv_iconst (v := 5) hx hb dX3_goesOn_25 (by decide) ?_
      refine lv_icmp_ne (tgt := 33) hx hb dX3_goesOn_26 (by decide) (fun c_77 => ?_) (fun c_77 => ?_)
      · refine lv_iconst (v := 0) hx hb dX3_goesOn_33 (by decide) ?_
        refine lv_istore (lv' := [(5, .int 0), (4, .int 1), (0, .ref h), (1, .int ra), (2, .int rb), (3, .int (bI can))]) hx hb dX3_goesOn_34 hl (by decide) rfl (fun ls hl => ?_)
        refine lv_iload hx hb dX3_goesOn_36 (lv_at hl 1 rfl) ?_
        refine lv_if_ne (tgt := 46) hx hb dX3_goesOn_38 (by decide) (fun c_78 => ?_) (fun c_78 => ?_)
        · refine lv_iload hx hb dX3_goesOn_46 (lv_at hl 1 rfl) ?_
          refine lv_if_ne (tgt := 55) hx hb dX3_goesOn_48 (by decide) (fun c_79 => ?_) (fun c_79 => ?_)
          · refine lv_iconst (v := 0) hx hb dX3_goesOn_55 (by decide) ?_
            refine lv_istore (lv' := [(6, .int 0), (5, .int 0), (4, .int 1), (0, .ref h), (1, .int ra), (2, .int rb), (3, .int (bI can))]) hx hb dX3_goesOn_56 hl (by decide) rfl (fun ls hl => ?_)
            refine lv_iload hx hb dX3_goesOn_58 (lv_at hl 2 rfl) ?_
            refine lv_if_eq (tgt := 125) hx hb dX3_goesOn_60 (by decide) (fun c_80 => ?_) (fun c_80 => ?_)
            · exact absurd c_80 (by decide)
            · refine lv_iload hx hb dX3_goesOn_63 (lv_at hl 1 rfl) ?_
              refine lv_if_eq (tgt := 125) hx hb dX3_goesOn_65 (by decide) (fun c_81 => ?_) (fun c_81 => ?_)
              · refine lv_aload_n hx hb dX3_goesOn_125 rfl (lv_at hl 3 rfl) ?_
                refine lv_iconst (v := 1) hx hb dX3_goesOn_126 (by decide) ?_
                have hFc := va_free (wc := cMd h q1 q2 cA cB cd ct tf ff td an qb pa aT aF dg fi lo) hD hS hA [0, 1, 2] rfl
                refine va_calli (va_runV (As := [.int 1]) (rest := []) ⟨hx, hb, hml, hown, hts⟩ (c_X3_tell l D h q1 q2 cA cB cd ct tf ff td an qb pa aT aF dg fi lo 1 s.heap.size (by decide)) (cwV 1 hts gX3_goesOn_X3_tell rfl rfl rfl kV_X3_tell ⟨Nat.le_of_ble_eq_true rfl, Nat.le_of_ble_eq_true rfl⟩) ⟨MMB.blind, va_recv hK hP (ci := 2) (q0 := 0) rfl rfl, MMB.pre hK hP hD⟩ rfl rfl hl.1 rfl (lv_room (Nat.le_of_ble_eq_true rfl)) dX3_goesOn_127 ⟨Nat.le_of_ble_eq_true rfl, Nat.le_of_ble_eq_true rfl⟩) hS (fun q _ h9 => hFc q h9) hFc (fun r9 v_82 t9 H locs ht hvm hw hB hz1 hk1 hS => ?_)
                obtain rfl := hw
                obtain ⟨otd_83, e_84, hP, hD9⟩ := hB
                rw [ht] at hP
                have hD : va_D A (cMd h q1 q2 cA cB cd ct tf ff otd_83 an qb pa aT aF dg fi lo) := hD9.weaken (fun _ _ _ h => hFc _ h)
                refine lv_if_eq (tgt := 167) hx hb dX3_goesOn_130 (by decide) (fun c_85 => ?_) (fun c_85 => ?_)
                · refine lv_iconst (v := 0) hx hb dX3_goesOn_167 (by decide) ?_
                  have hw : M_goesOn ct td an aT aF (tf ra.toNatClampNeg) (ff ra.toNatClampNeg) rb (tf rb.toNatClampNeg) (ff rb.toNatClampNeg) can = (false, otd_83, an, aT, aF) := by unfold M_goesOn; rw [if_pos c_1, if_neg c_62, if_neg c_77, tup2_e e_84, if_pos c_85]; try rfl
                  exact W.zret hx hb hr rfl (fun t9 ht hW => ⟨⟨_, false, rfl, rfl, ⟨otd_83, an, aT, aF, hw, by rw [ht]; exact hP, hD⟩⟩, hS.F ht⟩) hS.2.2 dX3_goesOn_168
                · refine lv_aload_n hx hb dX3_goesOn_133 rfl (lv_at hl 3 rfl) ?_
                  refine lv_aload_n hx hb dX3_goesOn_134 rfl (lv_at hl 3 rfl) ?_
                  refine va_get (v := .ref q1) (C := RX3) (T := TX3) (N := 13) hx hb hts in_X3 hown hK hP 0 rfl rfl 2 (by decide) w_3 (fun _ h9 => h9) rfl dX3_goesOn_135 ?_
                  refine lv_iload hx hb dX3_goesOn_138 (lv_at hl 0 rfl) ?_
                  refine lv_if_eq (tgt := 147) hx hb dX3_goesOn_140 (by decide) (fun c_86 => ?_) (fun c_86 => ?_)
                  · refine lv_iload_n hx hb dX3_goesOn_147 rfl (lv_at hl 4 rfl) ?_
                    refine va_iald hx hb hK hP 1 0 rfl rfl hra dX3_goesOn_148 ?_
                    refine lv_aload_n hx hb dX3_goesOn_149 rfl (lv_at hl 3 rfl) ?_
                    refine va_get (v := .ref q2) (C := RX3) (T := TX3) (N := 13) hx hb hts in_X3 hown hK hP 0 rfl rfl 3 (by decide) w_5 (fun _ h9 => h9) rfl dX3_goesOn_150 ?_
                    refine lv_iload hx hb dX3_goesOn_153 (lv_at hl 0 rfl) ?_
                    refine lv_if_eq (tgt := 162) hx hb dX3_goesOn_155 (by decide) (fun c_87 => ?_) (fun c_87 => ?_)
                    · refine lv_iload_n hx hb dX3_goesOn_162 rfl (lv_at hl 4 rfl) ?_
                      refine va_lald hx hb hK hP 2 1 rfl rfl hra dX3_goesOn_163 ?_
                      have hFc := va_free (wc := cMd h q1 q2 cA cB cd ct tf ff otd_83 an qb pa aT aF dg fi lo) hD hS hA [0, 1, 2] rfl
                      refine va_callv (va_runV (As := [.int (tf ra.toNatClampNeg), .long (ff ra.toNatClampNeg)]) (rest := []) ⟨hx, hb, hml, hown, hts⟩ (c_X3_answer l D h q1 q2 cA cB cd ct tf ff otd_83 an qb pa aT aF dg fi lo (tf ra.toNatClampNeg) (ff ra.toNatClampNeg) H.size) (cwV 2 hts gX3_goesOn_X3_answer rfl rfl rfl kV_X3_answer ⟨Nat.le_of_ble_eq_true rfl, Nat.le_of_ble_eq_true rfl⟩) ⟨MMB.blind, va_recv hK hP (ci := 2) (q0 := 0) rfl rfl, MMB.pre hK hP hD⟩ rfl rfl hl.1 rfl (lv_room (Nat.le_of_ble_eq_true rfl)) dX3_goesOn_164 ⟨Nat.le_of_ble_eq_true rfl, Nat.le_of_ble_eq_true rfl⟩) hS (fun q _ h9 => hFc q h9) hFc (fun u9 t9 H locs ht hvm hw hB hz1 hk1 hS => ?_)
                      obtain ⟨oan_88, oaT_89, oaF_90, e_91, hP, hD9⟩ := hB
                      rw [ht] at hP
                      have hD : va_D A (cMd h q1 q2 cA cB cd ct tf ff otd_83 oan_88 qb pa oaT_89 oaF_90 dg fi lo) := hD9.weaken (fun _ _ _ h => hFc _ h)
                      refine lv_iconst (v := 0) hx hb dX3_goesOn_167 (by decide) ?_
                      have hw : M_goesOn ct td an aT aF (tf ra.toNatClampNeg) (ff ra.toNatClampNeg) rb (tf rb.toNatClampNeg) (ff rb.toNatClampNeg) can = (false, otd_83, oan_88, oaT_89, oaF_90) := by unfold M_goesOn; rw [if_pos c_1, if_neg c_62, if_neg c_77, tup2_e e_84, if_neg c_85, tup3_e e_91]; try rfl
                      exact W.zret hx hb hr rfl (fun t9 ht hW => ⟨⟨_, false, rfl, rfl, ⟨otd_83, oan_88, oaT_89, oaF_90, hw, by rw [ht]; exact hP, hD⟩⟩, hS.F ht⟩) hS.2.2 dX3_goesOn_168
                    · exact absurd c_87 (by decide)
                  · exact absurd c_86 (by decide)
              · exact absurd c_81 (by decide)
          · exact absurd c_79 (by decide)
        · exact absurd c_78 (by decide)
      · refine lv_iconst (v := 1) hx hb dX3_goesOn_29 (by decide) ?_
        refine lv_goto (tgt := 34) hx hb dX3_goesOn_30 (by decide) ?_
        refine lv_istore (lv' := [(5, .int 1), (4, .int 1), (0, .ref h), (1, .int ra), (2, .int rb), (3, .int (bI can))]) hx hb dX3_goesOn_34 hl (by decide) rfl (fun ls hl => ?_)
        refine lv_iload hx hb dX3_goesOn_36 (lv_at hl 1 rfl) ?_
        refine lv_if_ne (tgt := 46) hx hb dX3_goesOn_38 (by decide) (fun c_92 => ?_) (fun c_92 => ?_)
        · refine lv_iload hx hb dX3_goesOn_46 (lv_at hl 1 rfl) ?_
          refine lv_if_ne (tgt := 55) hx hb dX3_goesOn_48 (by decide) (fun c_93 => ?_) (fun c_93 => ?_)
          · refine lv_iconst (v := 0) hx hb dX3_goesOn_55 (by decide) ?_
            refine lv_istore (lv' := [(6, .int 0), (5, .int 1), (4, .int 1), (0, .ref h), (1, .int ra), (2, .int rb), (3, .int (bI can))]) hx hb dX3_goesOn_56 hl (by decide) rfl (fun ls hl => ?_)
            refine lv_iload hx hb dX3_goesOn_58 (lv_at hl 2 rfl) ?_
            refine lv_if_eq (tgt := 125) hx hb dX3_goesOn_60 (by decide) (fun c_94 => ?_) (fun c_94 => ?_)
            · exact absurd c_94 (by decide)
            · refine lv_iload hx hb dX3_goesOn_63 (lv_at hl 1 rfl) ?_
              refine lv_if_eq (tgt := 125) hx hb dX3_goesOn_65 (by decide) (fun c_95 => ?_) (fun c_95 => ?_)
              · exact absurd c_95 (by decide)
              · refine lv_aload_n hx hb dX3_goesOn_68 rfl (lv_at hl 3 rfl) ?_
                refine va_get (v := .ref q2) (C := RX3) (T := TX3) (N := 13) hx hb hts in_X3 hown hK hP 0 rfl rfl 3 (by decide) w_5 (fun _ h9 => h9) rfl dX3_goesOn_69 ?_
                refine lv_iload_n hx hb dX3_goesOn_72 rfl (lv_at hl 4 rfl) ?_
                refine va_lald hx hb hK hP 2 1 rfl rfl hra dX3_goesOn_73 ?_
                refine lv_aload_n hx hb dX3_goesOn_74 rfl (lv_at hl 3 rfl) ?_
                refine va_get (v := .ref q2) (C := RX3) (T := TX3) (N := 13) hx hb hts in_X3 hown hK hP 0 rfl rfl 3 (by decide) w_5 (fun _ h9 => h9) rfl dX3_goesOn_75 ?_
                refine lv_iload_n hx hb dX3_goesOn_78 rfl (lv_at hl 5 rfl) ?_
                refine va_lald hx hb hK hP 2 1 rfl rfl (hrb c_62) dX3_goesOn_79 ?_
                refine vp_callSi (va_cr (va_runS (As := [.long (ff ra.toNatClampNeg), .long (ff rb.toNatClampNeg)]) (rest := []) ⟨hx, hb, hml, hown, hts⟩ (c_X3_lessSize l (ff ra.toNatClampNeg) (ff rb.toNatClampNeg)) (va_cwS 2 hts gX3_goesOn_X3_lessSize rfl rfl rfl kS_X3_lessSize ⟨Nat.le_of_ble_eq_true rfl, Nat.le_of_ble_eq_true rfl⟩) ⟨TB.blind, TB.pre⟩ rfl rfl hl.1 rfl (lv_room (Nat.le_of_ble_eq_true rfl)) dX3_goesOn_80 ⟨Nat.le_of_ble_eq_true rfl, Nat.le_of_ble_eq_true rfl⟩)) (fun r9 e9 => ?_)
                rw [e9]
                refine lv_if_ne (tgt := 118) hx hb dX3_goesOn_83 (by decide) (fun c_96 => ?_) (fun c_96 => ?_)
                · refine lv_iconst (v := 1) hx hb dX3_goesOn_118 (by decide) ?_
                  refine lv_goto (tgt := 123) hx hb dX3_goesOn_119 (by decide) ?_
                  refine lv_istore (lv' := [(6, .int 1), (5, .int 1), (4, .int 1), (0, .ref h), (1, .int ra), (2, .int rb), (3, .int (bI can))]) hx hb dX3_goesOn_123 hl (by decide) rfl (fun ls hl => ?_)
                  refine lv_aload_n hx hb dX3_goesOn_125 rfl (lv_at hl 3 rfl) ?_
                  refine lv_iconst (v := 1) hx hb dX3_goesOn_126 (by decide) ?_
                  have hFc := va_free (wc := cMd h q1 q2 cA cB cd ct tf ff td an qb pa aT aF dg fi lo) hD hS hA [0, 1, 2] rfl
                  refine va_calli (va_runV (As := [.int 1]) (rest := []) ⟨hx, hb, hml, hown, hts⟩ (c_X3_tell l D h q1 q2 cA cB cd ct tf ff td an qb pa aT aF dg fi lo 1 s.heap.size (by decide)) (cwV 1 hts gX3_goesOn_X3_tell rfl rfl rfl kV_X3_tell ⟨Nat.le_of_ble_eq_true rfl, Nat.le_of_ble_eq_true rfl⟩) ⟨MMB.blind, va_recv hK hP (ci := 2) (q0 := 0) rfl rfl, MMB.pre hK hP hD⟩ rfl rfl hl.1 rfl (lv_room (Nat.le_of_ble_eq_true rfl)) dX3_goesOn_127 ⟨Nat.le_of_ble_eq_true rfl, Nat.le_of_ble_eq_true rfl⟩) hS (fun q _ h9 => hFc q h9) hFc (fun r9 v_97 t9 H locs ht hvm hw hB hz1 hk1 hS => ?_)
                  obtain rfl := hw
                  obtain ⟨otd_98, e_99, hP, hD9⟩ := hB
                  rw [ht] at hP
                  have hD : va_D A (cMd h q1 q2 cA cB cd ct tf ff otd_98 an qb pa aT aF dg fi lo) := hD9.weaken (fun _ _ _ h => hFc _ h)
                  refine lv_if_eq (tgt := 167) hx hb dX3_goesOn_130 (by decide) (fun c_100 => ?_) (fun c_100 => ?_)
                  · refine lv_iconst (v := 0) hx hb dX3_goesOn_167 (by decide) ?_
                    have hw : M_goesOn ct td an aT aF (tf ra.toNatClampNeg) (ff ra.toNatClampNeg) rb (tf rb.toNatClampNeg) (ff rb.toNatClampNeg) can = (false, otd_98, an, aT, aF) := by unfold M_goesOn; rw [if_pos c_1, if_neg c_62, if_pos c_77, if_neg c_96, tup2_e e_99, if_pos c_100]; try rfl
                    exact W.zret hx hb hr rfl (fun t9 ht hW => ⟨⟨_, false, rfl, rfl, ⟨otd_98, an, aT, aF, hw, by rw [ht]; exact hP, hD⟩⟩, hS.F ht⟩) hS.2.2 dX3_goesOn_168
                  · refine lv_aload_n hx hb dX3_goesOn_133 rfl (lv_at hl 3 rfl) ?_
                    refine lv_aload_n hx hb dX3_goesOn_134 rfl (lv_at hl 3 rfl) ?_
                    refine va_get (v := .ref q1) (C := RX3) (T := TX3) (N := 13) hx hb hts in_X3 hown hK hP 0 rfl rfl 2 (by decide) w_3 (fun _ h9 => h9) rfl dX3_goesOn_135 ?_
                    refine lv_iload hx hb dX3_goesOn_138 (lv_at hl 0 rfl) ?_
                    refine lv_if_eq (tgt := 147) hx hb dX3_goesOn_140 (by decide) (fun c_101 => ?_) (fun c_101 => ?_)
                    · exact absurd c_101 (by decide)
                    · refine lv_iload_n hx hb dX3_goesOn_143 rfl (lv_at hl 5 rfl) ?_
                      refine lv_goto (tgt := 148) hx hb dX3_goesOn_144 (by decide) ?_
                      refine va_iald hx hb hK hP 1 0 rfl rfl (hrb c_62) dX3_goesOn_148 ?_
                      refine lv_aload_n hx hb dX3_goesOn_149 rfl (lv_at hl 3 rfl) ?_
                      refine va_get (v := .ref q2) (C := RX3) (T := TX3) (N := 13) hx hb hts in_X3 hown hK hP 0 rfl rfl 3 (by decide) w_5 (fun _ h9 => h9) rfl dX3_goesOn_150 ?_
                      refine lv_iload hx hb dX3_goesOn_153 (lv_at hl 0 rfl) ?_
                      refine lv_if_eq (tgt := 162) hx hb dX3_goesOn_155 (by decide) (fun c_102 => ?_) (fun c_102 => ?_)
                      · exact absurd c_102 (by decide)
                      · refine lv_iload_n hx hb dX3_goesOn_158 rfl (lv_at hl 5 rfl) ?_
                        refine lv_goto (tgt := 163) hx hb dX3_goesOn_159 (by decide) ?_
                        refine va_lald hx hb hK hP 2 1 rfl rfl (hrb c_62) dX3_goesOn_163 ?_
                        have hFc := va_free (wc := cMd h q1 q2 cA cB cd ct tf ff otd_98 an qb pa aT aF dg fi lo) hD hS hA [0, 1, 2] rfl
                        refine va_callv (va_runV (As := [.int (tf rb.toNatClampNeg), .long (ff rb.toNatClampNeg)]) (rest := []) ⟨hx, hb, hml, hown, hts⟩ (c_X3_answer l D h q1 q2 cA cB cd ct tf ff otd_98 an qb pa aT aF dg fi lo (tf rb.toNatClampNeg) (ff rb.toNatClampNeg) H.size) (cwV 2 hts gX3_goesOn_X3_answer rfl rfl rfl kV_X3_answer ⟨Nat.le_of_ble_eq_true rfl, Nat.le_of_ble_eq_true rfl⟩) ⟨MMB.blind, va_recv hK hP (ci := 2) (q0 := 0) rfl rfl, MMB.pre hK hP hD⟩ rfl rfl hl.1 rfl (lv_room (Nat.le_of_ble_eq_true rfl)) dX3_goesOn_164 ⟨Nat.le_of_ble_eq_true rfl, Nat.le_of_ble_eq_true rfl⟩) hS (fun q _ h9 => hFc q h9) hFc (fun u9 t9 H locs ht hvm hw hB hz1 hk1 hS => ?_)
                        obtain ⟨oan_103, oaT_104, oaF_105, e_106, hP, hD9⟩ := hB
                        rw [ht] at hP
                        have hD : va_D A (cMd h q1 q2 cA cB cd ct tf ff otd_98 oan_103 qb pa oaT_104 oaF_105 dg fi lo) := hD9.weaken (fun _ _ _ h => hFc _ h)
                        refine lv_iconst (v := 0) hx hb dX3_goesOn_167 (by decide) ?_
                        have hw : M_goesOn ct td an aT aF (tf ra.toNatClampNeg) (ff ra.toNatClampNeg) rb (tf rb.toNatClampNeg) (ff rb.toNatClampNeg) can = (false, otd_98, oan_103, oaT_104, oaF_105) := by unfold M_goesOn; rw [if_pos c_1, if_neg c_62, if_pos c_77, if_neg c_96, tup2_e e_99, if_neg c_100, tup3_e e_106]; try rfl
                        exact W.zret hx hb hr rfl (fun t9 ht hW => ⟨⟨_, false, rfl, rfl, ⟨otd_98, oan_103, oaT_104, oaF_105, hw, by rw [ht]; exact hP, hD⟩⟩, hS.F ht⟩) hS.2.2 dX3_goesOn_168
                · refine lv_aload_n hx hb dX3_goesOn_86 rfl (lv_at hl 3 rfl) ?_
                  refine va_get (v := .ref q2) (C := RX3) (T := TX3) (N := 13) hx hb hts in_X3 hown hK hP 0 rfl rfl 3 (by decide) w_5 (fun _ h9 => h9) rfl dX3_goesOn_87 ?_
                  refine lv_iload_n hx hb dX3_goesOn_90 rfl (lv_at hl 4 rfl) ?_
                  refine va_lald hx hb hK hP 2 1 rfl rfl hra dX3_goesOn_91 ?_
                  refine lv_aload_n hx hb dX3_goesOn_92 rfl (lv_at hl 3 rfl) ?_
                  refine va_get (v := .ref q2) (C := RX3) (T := TX3) (N := 13) hx hb hts in_X3 hown hK hP 0 rfl rfl 3 (by decide) w_5 (fun _ h9 => h9) rfl dX3_goesOn_93 ?_
                  refine lv_iload_n hx hb dX3_goesOn_96 rfl (lv_at hl 5 rfl) ?_
                  refine va_lald hx hb hK hP 2 1 rfl rfl (hrb c_62) dX3_goesOn_97 ?_
                  refine q_cl_ne (tgt := 122) hx hb dX3_goesOn_98 dX3_goesOn_99 (by decide) (fun c_107 => ?_) (fun c_107 => ?_)
                  · refine lv_iconst (v := 0) hx hb dX3_goesOn_122 (by decide) ?_
                    refine lv_istore (lv' := [(6, .int 0), (5, .int 1), (4, .int 1), (0, .ref h), (1, .int ra), (2, .int rb), (3, .int (bI can))]) hx hb dX3_goesOn_123 hl (by decide) rfl (fun ls hl => ?_)
                    refine lv_aload_n hx hb dX3_goesOn_125 rfl (lv_at hl 3 rfl) ?_
                    refine lv_iconst (v := 1) hx hb dX3_goesOn_126 (by decide) ?_
                    have hFc := va_free (wc := cMd h q1 q2 cA cB cd ct tf ff td an qb pa aT aF dg fi lo) hD hS hA [0, 1, 2] rfl
                    refine va_calli (va_runV (As := [.int 1]) (rest := []) ⟨hx, hb, hml, hown, hts⟩ (c_X3_tell l D h q1 q2 cA cB cd ct tf ff td an qb pa aT aF dg fi lo 1 s.heap.size (by decide)) (cwV 1 hts gX3_goesOn_X3_tell rfl rfl rfl kV_X3_tell ⟨Nat.le_of_ble_eq_true rfl, Nat.le_of_ble_eq_true rfl⟩) ⟨MMB.blind, va_recv hK hP (ci := 2) (q0 := 0) rfl rfl, MMB.pre hK hP hD⟩ rfl rfl hl.1 rfl (lv_room (Nat.le_of_ble_eq_true rfl)) dX3_goesOn_127 ⟨Nat.le_of_ble_eq_true rfl, Nat.le_of_ble_eq_true rfl⟩) hS (fun q _ h9 => hFc q h9) hFc (fun r9 v_108 t9 H locs ht hvm hw hB hz1 hk1 hS => ?_)
                    obtain rfl := hw
                    obtain ⟨otd_109, e_110, hP, hD9⟩ := hB
                    rw [ht] at hP
                    have hD : va_D A (cMd h q1 q2 cA cB cd ct tf ff otd_109 an qb pa aT aF dg fi lo) := hD9.weaken (fun _ _ _ h => hFc _ h)
                    refine lv_if_eq (tgt := 167) hx hb dX3_goesOn_130 (by decide) (fun c_111 => ?_) (fun c_111 => ?_)
                    · refine lv_iconst (v := 0) hx hb dX3_goesOn_167 (by decide) ?_
                      have hw : M_goesOn ct td an aT aF (tf ra.toNatClampNeg) (ff ra.toNatClampNeg) rb (tf rb.toNatClampNeg) (ff rb.toNatClampNeg) can = (false, otd_109, an, aT, aF) := by unfold M_goesOn; rw [if_pos c_1, if_neg c_62, if_pos c_77, if_pos c_96, if_neg c_107, tup2_e e_110, if_pos c_111]; try rfl
                      exact W.zret hx hb hr rfl (fun t9 ht hW => ⟨⟨_, false, rfl, rfl, ⟨otd_109, an, aT, aF, hw, by rw [ht]; exact hP, hD⟩⟩, hS.F ht⟩) hS.2.2 dX3_goesOn_168
                    · refine lv_aload_n hx hb dX3_goesOn_133 rfl (lv_at hl 3 rfl) ?_
                      refine lv_aload_n hx hb dX3_goesOn_134 rfl (lv_at hl 3 rfl) ?_
                      refine va_get (v := .ref q1) (C := RX3) (T := TX3) (N := 13) hx hb hts in_X3 hown hK hP 0 rfl rfl 2 (by decide) w_3 (fun _ h9 => h9) rfl dX3_goesOn_135 ?_
                      refine lv_iload hx hb dX3_goesOn_138 (lv_at hl 0 rfl) ?_
                      refine lv_if_eq (tgt := 147) hx hb dX3_goesOn_140 (by decide) (fun c_112 => ?_) (fun c_112 => ?_)
                      · refine lv_iload_n hx hb dX3_goesOn_147 rfl (lv_at hl 4 rfl) ?_
                        refine va_iald hx hb hK hP 1 0 rfl rfl hra dX3_goesOn_148 ?_
                        refine lv_aload_n hx hb dX3_goesOn_149 rfl (lv_at hl 3 rfl) ?_
                        refine va_get (v := .ref q2) (C := RX3) (T := TX3) (N := 13) hx hb hts in_X3 hown hK hP 0 rfl rfl 3 (by decide) w_5 (fun _ h9 => h9) rfl dX3_goesOn_150 ?_
                        refine lv_iload hx hb dX3_goesOn_153 (lv_at hl 0 rfl) ?_
                        refine lv_if_eq (tgt := 162) hx hb dX3_goesOn_155 (by decide) (fun c_113 => ?_) (fun c_113 => ?_)
                        · refine lv_iload_n hx hb dX3_goesOn_162 rfl (lv_at hl 4 rfl) ?_
                          refine va_lald hx hb hK hP 2 1 rfl rfl hra dX3_goesOn_163 ?_
                          have hFc := va_free (wc := cMd h q1 q2 cA cB cd ct tf ff otd_109 an qb pa aT aF dg fi lo) hD hS hA [0, 1, 2] rfl
                          refine va_callv (va_runV (As := [.int (tf ra.toNatClampNeg), .long (ff ra.toNatClampNeg)]) (rest := []) ⟨hx, hb, hml, hown, hts⟩ (c_X3_answer l D h q1 q2 cA cB cd ct tf ff otd_109 an qb pa aT aF dg fi lo (tf ra.toNatClampNeg) (ff ra.toNatClampNeg) H.size) (cwV 2 hts gX3_goesOn_X3_answer rfl rfl rfl kV_X3_answer ⟨Nat.le_of_ble_eq_true rfl, Nat.le_of_ble_eq_true rfl⟩) ⟨MMB.blind, va_recv hK hP (ci := 2) (q0 := 0) rfl rfl, MMB.pre hK hP hD⟩ rfl rfl hl.1 rfl (lv_room (Nat.le_of_ble_eq_true rfl)) dX3_goesOn_164 ⟨Nat.le_of_ble_eq_true rfl, Nat.le_of_ble_eq_true rfl⟩) hS (fun q _ h9 => hFc q h9) hFc (fun u9 t9 H locs ht hvm hw hB hz1 hk1 hS => ?_)
                          obtain ⟨oan_114, oaT_115, oaF_116, e_117, hP, hD9⟩ := hB
                          rw [ht] at hP
                          have hD : va_D A (cMd h q1 q2 cA cB cd ct tf ff otd_109 oan_114 qb pa oaT_115 oaF_116 dg fi lo) := hD9.weaken (fun _ _ _ h => hFc _ h)
                          refine lv_iconst (v := 0) hx hb dX3_goesOn_167 (by decide) ?_
                          have hw : M_goesOn ct td an aT aF (tf ra.toNatClampNeg) (ff ra.toNatClampNeg) rb (tf rb.toNatClampNeg) (ff rb.toNatClampNeg) can = (false, otd_109, oan_114, oaT_115, oaF_116) := by unfold M_goesOn; rw [if_pos c_1, if_neg c_62, if_pos c_77, if_pos c_96, if_neg c_107, tup2_e e_110, if_neg c_111, tup3_e e_117]; try rfl
                          exact W.zret hx hb hr rfl (fun t9 ht hW => ⟨⟨_, false, rfl, rfl, ⟨otd_109, oan_114, oaT_115, oaF_116, hw, by rw [ht]; exact hP, hD⟩⟩, hS.F ht⟩) hS.2.2 dX3_goesOn_168
                        · exact absurd c_113 (by decide)
                      · exact absurd c_112 (by decide)
                  · refine lv_aload_n hx hb dX3_goesOn_102 rfl (lv_at hl 3 rfl) ?_
                    refine lv_iload_n hx hb dX3_goesOn_103 rfl (lv_at hl 4 rfl) ?_
                    refine vp_callSi (va_cr (va_runV (As := [.int ra]) (rest := []) ⟨hx, hb, hml, hown, hts⟩ (c_X3_minus l D h q1 q2 cA cB cd ct tf ff td an qb pa aT aF dg fi lo ra hra) (cwV 1 hts gX3_goesOn_X3_minus rfl rfl rfl kV_X3_minus ⟨Nat.le_of_ble_eq_true rfl, Nat.le_of_ble_eq_true rfl⟩) ⟨PB.blind, va_recv hK hP (ci := 2) (q0 := 0) rfl rfl, PB.pre hK hP⟩ rfl rfl hl.1 rfl (lv_room (Nat.le_of_ble_eq_true rfl)) dX3_goesOn_104 ⟨Nat.le_of_ble_eq_true rfl, Nat.le_of_ble_eq_true rfl⟩)) (fun r9 e9 => ?_)
                    rw [e9]
                    refine lv_if_eq (tgt := 122) hx hb dX3_goesOn_107 (by decide) (fun c_118 => ?_) (fun c_118 => ?_)
                    · refine lv_iconst (v := 0) hx hb dX3_goesOn_122 (by decide) ?_
                      refine lv_istore (lv' := [(6, .int 0), (5, .int 1), (4, .int 1), (0, .ref h), (1, .int ra), (2, .int rb), (3, .int (bI can))]) hx hb dX3_goesOn_123 hl (by decide) rfl (fun ls hl => ?_)
                      refine lv_aload_n hx hb dX3_goesOn_125 rfl (lv_at hl 3 rfl) ?_
                      refine lv_iconst (v := 1) hx hb dX3_goesOn_126 (by decide) ?_
                      have hFc := va_free (wc := cMd h q1 q2 cA cB cd ct tf ff td an qb pa aT aF dg fi lo) hD hS hA [0, 1, 2] rfl
                      refine va_calli (va_runV (As := [.int 1]) (rest := []) ⟨hx, hb, hml, hown, hts⟩ (c_X3_tell l D h q1 q2 cA cB cd ct tf ff td an qb pa aT aF dg fi lo 1 s.heap.size (by decide)) (cwV 1 hts gX3_goesOn_X3_tell rfl rfl rfl kV_X3_tell ⟨Nat.le_of_ble_eq_true rfl, Nat.le_of_ble_eq_true rfl⟩) ⟨MMB.blind, va_recv hK hP (ci := 2) (q0 := 0) rfl rfl, MMB.pre hK hP hD⟩ rfl rfl hl.1 rfl (lv_room (Nat.le_of_ble_eq_true rfl)) dX3_goesOn_127 ⟨Nat.le_of_ble_eq_true rfl, Nat.le_of_ble_eq_true rfl⟩) hS (fun q _ h9 => hFc q h9) hFc (fun r9 v_119 t9 H locs ht hvm hw hB hz1 hk1 hS => ?_)
                      obtain rfl := hw
                      obtain ⟨otd_120, e_121, hP, hD9⟩ := hB
                      rw [ht] at hP
                      have hD : va_D A (cMd h q1 q2 cA cB cd ct tf ff otd_120 an qb pa aT aF dg fi lo) := hD9.weaken (fun _ _ _ h => hFc _ h)
                      refine lv_if_eq (tgt := 167) hx hb dX3_goesOn_130 (by decide) (fun c_122 => ?_) (fun c_122 => ?_)
                      · refine lv_iconst (v := 0) hx hb dX3_goesOn_167 (by decide) ?_
                        have hw : M_goesOn ct td an aT aF (tf ra.toNatClampNeg) (ff ra.toNatClampNeg) rb (tf rb.toNatClampNeg) (ff rb.toNatClampNeg) can = (false, otd_120, an, aT, aF) := by unfold M_goesOn; rw [if_pos c_1, if_neg c_62, if_pos c_77, if_pos c_96, if_pos c_107, if_pos c_118, tup2_e e_121, if_pos c_122]; try rfl
                        exact W.zret hx hb hr rfl (fun t9 ht hW => ⟨⟨_, false, rfl, rfl, ⟨otd_120, an, aT, aF, hw, by rw [ht]; exact hP, hD⟩⟩, hS.F ht⟩) hS.2.2 dX3_goesOn_168
                      · refine lv_aload_n hx hb dX3_goesOn_133 rfl (lv_at hl 3 rfl) ?_
                        refine lv_aload_n hx hb dX3_goesOn_134 rfl (lv_at hl 3 rfl) ?_
                        refine va_get (v := .ref q1) (C := RX3) (T := TX3) (N := 13) hx hb hts in_X3 hown hK hP 0 rfl rfl 2 (by decide) w_3 (fun _ h9 => h9) rfl dX3_goesOn_135 ?_
                        refine lv_iload hx hb dX3_goesOn_138 (lv_at hl 0 rfl) ?_
                        refine lv_if_eq (tgt := 147) hx hb dX3_goesOn_140 (by decide) (fun c_123 => ?_) (fun c_123 => ?_)
                        · refine lv_iload_n hx hb dX3_goesOn_147 rfl (lv_at hl 4 rfl) ?_
                          refine va_iald hx hb hK hP 1 0 rfl rfl hra dX3_goesOn_148 ?_
                          refine lv_aload_n hx hb dX3_goesOn_149 rfl (lv_at hl 3 rfl) ?_
                          refine va_get (v := .ref q2) (C := RX3) (T := TX3) (N := 13) hx hb hts in_X3 hown hK hP 0 rfl rfl 3 (by decide) w_5 (fun _ h9 => h9) rfl dX3_goesOn_150 ?_
                          refine lv_iload hx hb dX3_goesOn_153 (lv_at hl 0 rfl) ?_
                          refine lv_if_eq (tgt := 162) hx hb dX3_goesOn_155 (by decide) (fun c_124 => ?_) (fun c_124 => ?_)
                          · refine lv_iload_n hx hb dX3_goesOn_162 rfl (lv_at hl 4 rfl) ?_
                            refine va_lald hx hb hK hP 2 1 rfl rfl hra dX3_goesOn_163 ?_
                            have hFc := va_free (wc := cMd h q1 q2 cA cB cd ct tf ff otd_120 an qb pa aT aF dg fi lo) hD hS hA [0, 1, 2] rfl
                            refine va_callv (va_runV (As := [.int (tf ra.toNatClampNeg), .long (ff ra.toNatClampNeg)]) (rest := []) ⟨hx, hb, hml, hown, hts⟩ (c_X3_answer l D h q1 q2 cA cB cd ct tf ff otd_120 an qb pa aT aF dg fi lo (tf ra.toNatClampNeg) (ff ra.toNatClampNeg) H.size) (cwV 2 hts gX3_goesOn_X3_answer rfl rfl rfl kV_X3_answer ⟨Nat.le_of_ble_eq_true rfl, Nat.le_of_ble_eq_true rfl⟩) ⟨MMB.blind, va_recv hK hP (ci := 2) (q0 := 0) rfl rfl, MMB.pre hK hP hD⟩ rfl rfl hl.1 rfl (lv_room (Nat.le_of_ble_eq_true rfl)) dX3_goesOn_164 ⟨Nat.le_of_ble_eq_true rfl, Nat.le_of_ble_eq_true rfl⟩) hS (fun q _ h9 => hFc q h9) hFc (fun u9 t9 H locs ht hvm hw hB hz1 hk1 hS => ?_)
                            obtain ⟨oan_125, oaT_126, oaF_127, e_128, hP, hD9⟩ := hB
                            rw [ht] at hP
                            have hD : va_D A (cMd h q1 q2 cA cB cd ct tf ff otd_120 oan_125 qb pa oaT_126 oaF_127 dg fi lo) := hD9.weaken (fun _ _ _ h => hFc _ h)
                            refine lv_iconst (v := 0) hx hb dX3_goesOn_167 (by decide) ?_
                            have hw : M_goesOn ct td an aT aF (tf ra.toNatClampNeg) (ff ra.toNatClampNeg) rb (tf rb.toNatClampNeg) (ff rb.toNatClampNeg) can = (false, otd_120, oan_125, oaT_126, oaF_127) := by unfold M_goesOn; rw [if_pos c_1, if_neg c_62, if_pos c_77, if_pos c_96, if_pos c_107, if_pos c_118, tup2_e e_121, if_neg c_122, tup3_e e_128]; try rfl
                            exact W.zret hx hb hr rfl (fun t9 ht hW => ⟨⟨_, false, rfl, rfl, ⟨otd_120, oan_125, oaT_126, oaF_127, hw, by rw [ht]; exact hP, hD⟩⟩, hS.F ht⟩) hS.2.2 dX3_goesOn_168
                          · exact absurd c_124 (by decide)
                        · exact absurd c_123 (by decide)
                    · refine lv_aload_n hx hb dX3_goesOn_110 rfl (lv_at hl 3 rfl) ?_
                      refine lv_iload_n hx hb dX3_goesOn_111 rfl (lv_at hl 5 rfl) ?_
                      refine vp_callSi (va_cr (va_runV (As := [.int rb]) (rest := []) ⟨hx, hb, hml, hown, hts⟩ (c_X3_minus l D h q1 q2 cA cB cd ct tf ff td an qb pa aT aF dg fi lo rb (hrb c_62)) (cwV 1 hts gX3_goesOn_X3_minus rfl rfl rfl kV_X3_minus ⟨Nat.le_of_ble_eq_true rfl, Nat.le_of_ble_eq_true rfl⟩) ⟨PB.blind, va_recv hK hP (ci := 2) (q0 := 0) rfl rfl, PB.pre hK hP⟩ rfl rfl hl.1 rfl (lv_room (Nat.le_of_ble_eq_true rfl)) dX3_goesOn_112 ⟨Nat.le_of_ble_eq_true rfl, Nat.le_of_ble_eq_true rfl⟩)) (fun r9 e9 => ?_)
                      rw [e9]
                      refine lv_if_ne (tgt := 122) hx hb dX3_goesOn_115 (by decide) (fun c_129 => ?_) (fun c_129 => ?_)
                      · refine lv_iconst (v := 0) hx hb dX3_goesOn_122 (by decide) ?_
                        refine lv_istore (lv' := [(6, .int 0), (5, .int 1), (4, .int 1), (0, .ref h), (1, .int ra), (2, .int rb), (3, .int (bI can))]) hx hb dX3_goesOn_123 hl (by decide) rfl (fun ls hl => ?_)
                        refine lv_aload_n hx hb dX3_goesOn_125 rfl (lv_at hl 3 rfl) ?_
                        refine lv_iconst (v := 1) hx hb dX3_goesOn_126 (by decide) ?_
                        have hFc := va_free (wc := cMd h q1 q2 cA cB cd ct tf ff td an qb pa aT aF dg fi lo) hD hS hA [0, 1, 2] rfl
                        refine va_calli (va_runV (As := [.int 1]) (rest := []) ⟨hx, hb, hml, hown, hts⟩ (c_X3_tell l D h q1 q2 cA cB cd ct tf ff td an qb pa aT aF dg fi lo 1 s.heap.size (by decide)) (cwV 1 hts gX3_goesOn_X3_tell rfl rfl rfl kV_X3_tell ⟨Nat.le_of_ble_eq_true rfl, Nat.le_of_ble_eq_true rfl⟩) ⟨MMB.blind, va_recv hK hP (ci := 2) (q0 := 0) rfl rfl, MMB.pre hK hP hD⟩ rfl rfl hl.1 rfl (lv_room (Nat.le_of_ble_eq_true rfl)) dX3_goesOn_127 ⟨Nat.le_of_ble_eq_true rfl, Nat.le_of_ble_eq_true rfl⟩) hS (fun q _ h9 => hFc q h9) hFc (fun r9 v_130 t9 H locs ht hvm hw hB hz1 hk1 hS => ?_)
                        obtain rfl := hw
                        obtain ⟨otd_131, e_132, hP, hD9⟩ := hB
                        rw [ht] at hP
                        have hD : va_D A (cMd h q1 q2 cA cB cd ct tf ff otd_131 an qb pa aT aF dg fi lo) := hD9.weaken (fun _ _ _ h => hFc _ h)
                        refine lv_if_eq (tgt := 167) hx hb dX3_goesOn_130 (by decide) (fun c_133 => ?_) (fun c_133 => ?_)
                        · refine lv_iconst (v := 0) hx hb dX3_goesOn_167 (by decide) ?_
                          have hw : M_goesOn ct td an aT aF (tf ra.toNatClampNeg) (ff ra.toNatClampNeg) rb (tf rb.toNatClampNeg) (ff rb.toNatClampNeg) can = (false, otd_131, an, aT, aF) := by unfold M_goesOn; rw [if_pos c_1, if_neg c_62, if_pos c_77, if_pos c_96, if_pos c_107, if_neg c_118, if_neg c_129, tup2_e e_132, if_pos c_133]; try rfl
                          exact W.zret hx hb hr rfl (fun t9 ht hW => ⟨⟨_, false, rfl, rfl, ⟨otd_131, an, aT, aF, hw, by rw [ht]; exact hP, hD⟩⟩, hS.F ht⟩) hS.2.2 dX3_goesOn_168
                        · refine lv_aload_n hx hb dX3_goesOn_133 rfl (lv_at hl 3 rfl) ?_
                          refine lv_aload_n hx hb dX3_goesOn_134 rfl (lv_at hl 3 rfl) ?_
                          refine va_get (v := .ref q1) (C := RX3) (T := TX3) (N := 13) hx hb hts in_X3 hown hK hP 0 rfl rfl 2 (by decide) w_3 (fun _ h9 => h9) rfl dX3_goesOn_135 ?_
                          refine lv_iload hx hb dX3_goesOn_138 (lv_at hl 0 rfl) ?_
                          refine lv_if_eq (tgt := 147) hx hb dX3_goesOn_140 (by decide) (fun c_134 => ?_) (fun c_134 => ?_)
                          · refine lv_iload_n hx hb dX3_goesOn_147 rfl (lv_at hl 4 rfl) ?_
                            refine va_iald hx hb hK hP 1 0 rfl rfl hra dX3_goesOn_148 ?_
                            refine lv_aload_n hx hb dX3_goesOn_149 rfl (lv_at hl 3 rfl) ?_
                            refine va_get (v := .ref q2) (C := RX3) (T := TX3) (N := 13) hx hb hts in_X3 hown hK hP 0 rfl rfl 3 (by decide) w_5 (fun _ h9 => h9) rfl dX3_goesOn_150 ?_
                            refine lv_iload hx hb dX3_goesOn_153 (lv_at hl 0 rfl) ?_
                            refine lv_if_eq (tgt := 162) hx hb dX3_goesOn_155 (by decide) (fun c_135 => ?_) (fun c_135 => ?_)
                            · refine lv_iload_n hx hb dX3_goesOn_162 rfl (lv_at hl 4 rfl) ?_
                              refine va_lald hx hb hK hP 2 1 rfl rfl hra dX3_goesOn_163 ?_
                              have hFc := va_free (wc := cMd h q1 q2 cA cB cd ct tf ff otd_131 an qb pa aT aF dg fi lo) hD hS hA [0, 1, 2] rfl
                              refine va_callv (va_runV (As := [.int (tf ra.toNatClampNeg), .long (ff ra.toNatClampNeg)]) (rest := []) ⟨hx, hb, hml, hown, hts⟩ (c_X3_answer l D h q1 q2 cA cB cd ct tf ff otd_131 an qb pa aT aF dg fi lo (tf ra.toNatClampNeg) (ff ra.toNatClampNeg) H.size) (cwV 2 hts gX3_goesOn_X3_answer rfl rfl rfl kV_X3_answer ⟨Nat.le_of_ble_eq_true rfl, Nat.le_of_ble_eq_true rfl⟩) ⟨MMB.blind, va_recv hK hP (ci := 2) (q0 := 0) rfl rfl, MMB.pre hK hP hD⟩ rfl rfl hl.1 rfl (lv_room (Nat.le_of_ble_eq_true rfl)) dX3_goesOn_164 ⟨Nat.le_of_ble_eq_true rfl, Nat.le_of_ble_eq_true rfl⟩) hS (fun q _ h9 => hFc q h9) hFc (fun u9 t9 H locs ht hvm hw hB hz1 hk1 hS => ?_)
                              obtain ⟨oan_136, oaT_137, oaF_138, e_139, hP, hD9⟩ := hB
                              rw [ht] at hP
                              have hD : va_D A (cMd h q1 q2 cA cB cd ct tf ff otd_131 oan_136 qb pa oaT_137 oaF_138 dg fi lo) := hD9.weaken (fun _ _ _ h => hFc _ h)
                              refine lv_iconst (v := 0) hx hb dX3_goesOn_167 (by decide) ?_
                              have hw : M_goesOn ct td an aT aF (tf ra.toNatClampNeg) (ff ra.toNatClampNeg) rb (tf rb.toNatClampNeg) (ff rb.toNatClampNeg) can = (false, otd_131, oan_136, oaT_137, oaF_138) := by unfold M_goesOn; rw [if_pos c_1, if_neg c_62, if_pos c_77, if_pos c_96, if_pos c_107, if_neg c_118, if_neg c_129, tup2_e e_132, if_neg c_133, tup3_e e_139]; try rfl
                              exact W.zret hx hb hr rfl (fun t9 ht hW => ⟨⟨_, false, rfl, rfl, ⟨otd_131, oan_136, oaT_137, oaF_138, hw, by rw [ht]; exact hP, hD⟩⟩, hS.F ht⟩) hS.2.2 dX3_goesOn_168
                            · exact absurd c_135 (by decide)
                          · exact absurd c_134 (by decide)
                      · refine lv_iconst (v := 1) hx hb dX3_goesOn_118 (by decide) ?_
                        refine lv_goto (tgt := 123) hx hb dX3_goesOn_119 (by decide) ?_
                        refine lv_istore (lv' := [(6, .int 1), (5, .int 1), (4, .int 1), (0, .ref h), (1, .int ra), (2, .int rb), (3, .int (bI can))]) hx hb dX3_goesOn_123 hl (by decide) rfl (fun ls hl => ?_)
                        refine lv_aload_n hx hb dX3_goesOn_125 rfl (lv_at hl 3 rfl) ?_
                        refine lv_iconst (v := 1) hx hb dX3_goesOn_126 (by decide) ?_
                        have hFc := va_free (wc := cMd h q1 q2 cA cB cd ct tf ff td an qb pa aT aF dg fi lo) hD hS hA [0, 1, 2] rfl
                        refine va_calli (va_runV (As := [.int 1]) (rest := []) ⟨hx, hb, hml, hown, hts⟩ (c_X3_tell l D h q1 q2 cA cB cd ct tf ff td an qb pa aT aF dg fi lo 1 s.heap.size (by decide)) (cwV 1 hts gX3_goesOn_X3_tell rfl rfl rfl kV_X3_tell ⟨Nat.le_of_ble_eq_true rfl, Nat.le_of_ble_eq_true rfl⟩) ⟨MMB.blind, va_recv hK hP (ci := 2) (q0 := 0) rfl rfl, MMB.pre hK hP hD⟩ rfl rfl hl.1 rfl (lv_room (Nat.le_of_ble_eq_true rfl)) dX3_goesOn_127 ⟨Nat.le_of_ble_eq_true rfl, Nat.le_of_ble_eq_true rfl⟩) hS (fun q _ h9 => hFc q h9) hFc (fun r9 v_140 t9 H locs ht hvm hw hB hz1 hk1 hS => ?_)
                        obtain rfl := hw
                        obtain ⟨otd_141, e_142, hP, hD9⟩ := hB
                        rw [ht] at hP
                        have hD : va_D A (cMd h q1 q2 cA cB cd ct tf ff otd_141 an qb pa aT aF dg fi lo) := hD9.weaken (fun _ _ _ h => hFc _ h)
                        refine lv_if_eq (tgt := 167) hx hb dX3_goesOn_130 (by decide) (fun c_143 => ?_) (fun c_143 => ?_)
                        · refine lv_iconst (v := 0) hx hb dX3_goesOn_167 (by decide) ?_
                          have hw : M_goesOn ct td an aT aF (tf ra.toNatClampNeg) (ff ra.toNatClampNeg) rb (tf rb.toNatClampNeg) (ff rb.toNatClampNeg) can = (false, otd_141, an, aT, aF) := by unfold M_goesOn; rw [if_pos c_1, if_neg c_62, if_pos c_77, if_pos c_96, if_pos c_107, if_neg c_118, if_pos c_129, tup2_e e_142, if_pos c_143]; try rfl
                          exact W.zret hx hb hr rfl (fun t9 ht hW => ⟨⟨_, false, rfl, rfl, ⟨otd_141, an, aT, aF, hw, by rw [ht]; exact hP, hD⟩⟩, hS.F ht⟩) hS.2.2 dX3_goesOn_168
                        · refine lv_aload_n hx hb dX3_goesOn_133 rfl (lv_at hl 3 rfl) ?_
                          refine lv_aload_n hx hb dX3_goesOn_134 rfl (lv_at hl 3 rfl) ?_
                          refine va_get (v := .ref q1) (C := RX3) (T := TX3) (N := 13) hx hb hts in_X3 hown hK hP 0 rfl rfl 2 (by decide) w_3 (fun _ h9 => h9) rfl dX3_goesOn_135 ?_
                          refine lv_iload hx hb dX3_goesOn_138 (lv_at hl 0 rfl) ?_
                          refine lv_if_eq (tgt := 147) hx hb dX3_goesOn_140 (by decide) (fun c_144 => ?_) (fun c_144 => ?_)
                          · exact absurd c_144 (by decide)
                          · refine lv_iload_n hx hb dX3_goesOn_143 rfl (lv_at hl 5 rfl) ?_
                            refine lv_goto (tgt := 148) hx hb dX3_goesOn_144 (by decide) ?_
                            refine va_iald hx hb hK hP 1 0 rfl rfl (hrb c_62) dX3_goesOn_148 ?_
                            refine lv_aload_n hx hb dX3_goesOn_149 rfl (lv_at hl 3 rfl) ?_
                            refine va_get (v := .ref q2) (C := RX3) (T := TX3) (N := 13) hx hb hts in_X3 hown hK hP 0 rfl rfl 3 (by decide) w_5 (fun _ h9 => h9) rfl dX3_goesOn_150 ?_
                            refine lv_iload hx hb dX3_goesOn_153 (lv_at hl 0 rfl) ?_
                            refine lv_if_eq (tgt := 162) hx hb dX3_goesOn_155 (by decide) (fun c_145 => ?_) (fun c_145 => ?_)
                            · exact absurd c_145 (by decide)
                            · refine lv_iload_n hx hb dX3_goesOn_158 rfl (lv_at hl 5 rfl) ?_
                              refine lv_goto (tgt := 163) hx hb dX3_goesOn_159 (by decide) ?_
                              refine va_lald hx hb hK hP 2 1 rfl rfl (hrb c_62) dX3_goesOn_163 ?_
                              have hFc := va_free (wc := cMd h q1 q2 cA cB cd ct tf ff otd_141 an qb pa aT aF dg fi lo) hD hS hA [0, 1, 2] rfl
                              refine va_callv (va_runV (As := [.int (tf rb.toNatClampNeg), .long (ff rb.toNatClampNeg)]) (rest := []) ⟨hx, hb, hml, hown, hts⟩ (c_X3_answer l D h q1 q2 cA cB cd ct tf ff otd_141 an qb pa aT aF dg fi lo (tf rb.toNatClampNeg) (ff rb.toNatClampNeg) H.size) (cwV 2 hts gX3_goesOn_X3_answer rfl rfl rfl kV_X3_answer ⟨Nat.le_of_ble_eq_true rfl, Nat.le_of_ble_eq_true rfl⟩) ⟨MMB.blind, va_recv hK hP (ci := 2) (q0 := 0) rfl rfl, MMB.pre hK hP hD⟩ rfl rfl hl.1 rfl (lv_room (Nat.le_of_ble_eq_true rfl)) dX3_goesOn_164 ⟨Nat.le_of_ble_eq_true rfl, Nat.le_of_ble_eq_true rfl⟩) hS (fun q _ h9 => hFc q h9) hFc (fun u9 t9 H locs ht hvm hw hB hz1 hk1 hS => ?_)
                              obtain ⟨oan_146, oaT_147, oaF_148, e_149, hP, hD9⟩ := hB
                              rw [ht] at hP
                              have hD : va_D A (cMd h q1 q2 cA cB cd ct tf ff otd_141 oan_146 qb pa oaT_147 oaF_148 dg fi lo) := hD9.weaken (fun _ _ _ h => hFc _ h)
                              refine lv_iconst (v := 0) hx hb dX3_goesOn_167 (by decide) ?_
                              have hw : M_goesOn ct td an aT aF (tf ra.toNatClampNeg) (ff ra.toNatClampNeg) rb (tf rb.toNatClampNeg) (ff rb.toNatClampNeg) can = (false, otd_141, oan_146, oaT_147, oaF_148) := by unfold M_goesOn; rw [if_pos c_1, if_neg c_62, if_pos c_77, if_pos c_96, if_pos c_107, if_neg c_118, if_pos c_129, tup2_e e_142, if_neg c_143, tup3_e e_149]; try rfl
                              exact W.zret hx hb hr rfl (fun t9 ht hW => ⟨⟨_, false, rfl, rfl, ⟨otd_141, oan_146, oaT_147, oaF_148, hw, by rw [ht]; exact hP, hD⟩⟩, hS.F ht⟩) hS.2.2 dX3_goesOn_168
          · exact absurd c_93 (by decide)
        · exact absurd c_92 (by decide)
def M_rdL (nn : Int32) : Nat → Int64 → Bool → Bool → Int32 → Int64 × Bool × Bool × Int32
  | 0, v1, v2, v3, v4 => (v1, v2, v3, v4)
  | n + 1, v1, v2, v3, v4 => if nn ≤ v4 then ((v1, v2, v3, v4))
    else if 70 ≤ v4 then ((v1, v2, v3, v4))
    else M_rdL nn n ((jlshr v1 1) &&& 9223372036854775807) (if (v1 - v1 / 2 * 2) = 0 then false else true) (if bI v3 = 0 then (if bI v2 = 0 then false else true) else true) (v4 + 1)
theorem M_rdL_S (nn : Int32) (n : Nat) (v1 : Int64) (v2 : Bool) (v3 : Bool) (v4 : Int32) : M_rdL nn (n + 1) v1 v2 v3 v4 = (if nn ≤ v4 then ((v1, v2, v3, v4))
    else if 70 ≤ v4 then ((v1, v2, v3, v4))
    else M_rdL nn n ((jlshr v1 1) &&& 9223372036854775807) (if (v1 - v1 / 2 * 2) = 0 then false else true) (if bI v3 = 0 then (if bI v2 = 0 then false else true) else true) (v4 + 1)) := rfl
def M_rounded (ct : Int32) (fr : Int64) (nn : Int32) (ng : Bool) : Int64 × Bool :=
  tup4 (M_rdL nn (71) fr false false 0) (fun v1 v2 v3 v4 =>
    ((if bI (if (M_way ct) = 0 then (if bI (if bI v2 = 0 then false else (if 70 < nn then false else true)) = 0 then false else (if bI (if bI v3 = 0 then (if nn ≤ 70 then false else (if bI v2 = 0 then false else true)) else true) = 0 then (if (v1 - v1 / 2 * 2) = 1 then true else false) else true)) else (if bI (if bI (if bI v2 = 0 then false else (if 70 < nn then false else true)) = 0 then (if bI (if bI v3 = 0 then (if nn ≤ 70 then false else (if bI v2 = 0 then false else true)) else true) = 0 then false else true) else true) = 0 then false else (if bI ng = 0 then (if (M_way ct) = 2 then true else false) else (if (M_way ct) = 1 then true else false)))) = 0 then v1 else (v1 + 1)), (if bI (if bI v2 = 0 then false else (if 70 < nn then false else true)) = 0 then (if bI (if bI v3 = 0 then (if nn ≤ 70 then false else (if bI v2 = 0 then false else true)) else true) = 0 then false else true) else true)))
theorem kS_X3_rounded : yX3_rounded.cls ≠ "java/lang/invoke/MethodHandle" ∧ yX3_rounded.cls ≠ "java/lang/invoke/VarHandle" ∧ (parseMethodDescriptor yX3_rounded.desc).map (fun d => d.parameters.length) = some 3 := by decide +kernel
theorem kV_X3_rounded : yX3_rounded.cls = RX3 ∧ yX3_rounded.cls ≠ "java/lang/invoke/MethodHandle" ∧ yX3_rounded.cls ≠ "java/lang/invoke/VarHandle" ∧ (parseMethodDescriptor yX3_rounded.desc).map (fun d => d.parameters.length) = some 3 := ⟨rfl, kS_X3_rounded⟩
set_option maxHeartbeats 4000000 in
set_option maxRecDepth 100000 in
theorem c_X3_rounded (l : Launch) (D : va_G) (h : Nat) (q1 : Nat) (q2 : Nat) (cA : ClassId) (cB : ClassId) (cd : Int32) (ct : Int32) (tf : Nat → Int32) (ff : Nat → Int64) (td : Int32) (an : Bool) (qb : Int32) (pa : Bool) (aT : Int32) (aF : Int64) (dg : Int64) (fi : Int32) (lo : Bool) (fr : Int64) (nn : Int32) (ng : Bool) (sz : Nat) : Met l yX3_rounded wsX3_rounded ({ frames := 1, cells := 0, slots := 0, locals := 20 } : Room) (va_Pc [.ref h, .long fr, .int nn, .int (bI ng)] (MMB D (tRS cA cB) (cMd h q1 q2 cA cB cd ct tf ff td an qb pa aT aF dg fi lo) sz)) (va_Ql (fun (r u : Int64) => r = u) (fun u t => ∃ (w_lo : Bool), M_rounded ct fr nn ng = (u, w_lo) ∧ va_P D vwCl (cMd h q1 q2 cA cB cd ct tf ff td an qb pa aT aF dg fi w_lo) t.heap ∧ va_D (va_A (cMd h q1 q2 cA cB cd ct tf ff td an qb pa aT aF dg fi lo) sz) (cMd h q1 q2 cA cB cd ct tf ff td an qb pa aT aF dg fi w_lo)) (va_A (cMd h q1 q2 cA cB cd ct tf ff td an qb pa aT aF dg fi lo) sz)) 0 0 (va_A (cMd h q1 q2 cA cB cd ct tf ff td an qb pa aT aF dg fi lo) sz) := by
  refine Met.ofW (cc := cX3_rounded) (maxL := 10) (ret := (some .long)) (by decide) rfl ?_
  intro p e s m args below meth c s₁ B hml hv
  obtain ⟨rfl, hsz, hP, hK, hD0⟩ := hv
  have hx := B.exec
  have hb := B.bytes
  have hr := B.returns
  have hts := atoms_spec (ws := wsX3_rounded) B.pre
  have hown : s.vm.findClass RX3 = some m.cls := findClass_of_methodNamed B.named
  have hlocks := B.notSynchronized
  have w_1 := hts (.fieldLink RX3 98 "RealStepsModel" "lost" "Z") (by decide +kernel)
  have in_X3 : ∀ w ∈ wsX30, w ∈ wsX3_rounded := by decide +kernel
  have w_3 := hts (.constantLong RX3 60 (2)) (by decide +kernel)
  have w_4 := hts (.constantLong RX3 96 (9223372036854775807)) (by decide +kernel)
  subst hsz
  have hD := hD0.self (sz := s.heap.size)
  generalize hAe : va_A (cMd h q1 q2 cA cB cd ct tf ff td an qb pa aT aF dg fi lo) s.heap.size = A at hD ⊢
  have hA : ∀ q : Nat, s.heap.size ≤ q → A q := fun q h => by rw [← hAe]; exact Or.inr h
  have hS : va_S A s.heap s.heap [] := va_S.rf
  have hP : va_P D vwCl (cMd h q1 q2 cA cB cd ct tf ff td an qb pa aT aF dg fi lo) s.heap := hP
  have hl := lv_entry ([.ref h, .long fr, .int nn, .int (bI ng)]) (n := 10) (Nat.le_of_ble_eq_true rfl)
  rw [lg_entry_eq]
  generalize (lg_sl ([.ref h, .long fr, .int nn, .int (bI ng)]) ++ List.replicate (10 - (lg_sl ([.ref h, .long fr, .int nn, .int (bI ng)])).length) Slot.unset).toArray = ls at hl ⊢
  have hl : lv_has ls 10 [(0, .ref h), (1, .long fr), (3, .int nn), (4, .int (bI ng))] := hl
  refine lv_lload_n hx hb dX3_rounded_0 rfl (lv_at hl 1 rfl) ?_
  refine lv_lstore (lv' := [(5, .long fr), (0, .ref h), (1, .long fr), (3, .int nn), (4, .int (bI ng))]) hx hb dX3_rounded_1 hl (by decide) rfl (fun ls hl => ?_)
  refine lv_iconst (v := 0) hx hb dX3_rounded_3 (by decide) ?_
  refine lv_istore (lv' := [(7, .int 0), (5, .long fr), (0, .ref h), (1, .long fr), (3, .int nn), (4, .int (bI ng))]) hx hb dX3_rounded_4 hl (by decide) rfl (fun ls hl => ?_)
  refine lv_iconst (v := 0) hx hb dX3_rounded_6 (by decide) ?_
  refine lv_istore (lv' := [(8, .int 0), (7, .int 0), (5, .long fr), (0, .ref h), (1, .long fr), (3, .int nn), (4, .int (bI ng))]) hx hb dX3_rounded_7 hl (by decide) rfl (fun ls hl => ?_)
  refine lv_iconst (v := 0) hx hb dX3_rounded_9 (by decide) ?_
  refine lv_istore (lv' := [(9, .int 0), (8, .int 0), (7, .int 0), (5, .long fr), (0, .ref h), (1, .long fr), (3, .int nn), (4, .int (bI ng))]) hx hb dX3_rounded_10 hl (by decide) rfl (fun ls hl => ?_)
  have EXIT : ∀ (v1 : Int64) (v2 : Bool) (v3 : Bool) (v4 : Int32), M_rdL nn (71) fr false false 0 = (v1, v2, v3, v4) → ∀ (H : Heap) (locs : List Loc) (ls : Array Slot), va_P D vwCl (cMd h q1 q2 cA cB cd ct tf ff td an qb pa aT aF dg fi lo) H → va_D A (cMd h q1 q2 cA cB cd ct tf ff td an qb pa aT aF dg fi lo) → va_S A s.heap H locs → lv_has ls 10 [(9, .int v4), (8, .int (bI v3)), (7, .int (bI v2)), (5, .long v1), (0, .ref h), (1, .long fr), (3, .int nn), (4, .int (bI ng))] → W p l e (headSpec wsX3_rounded ({ frames := 1, cells := 0, slots := 0, locals := 20 } : Room)).room s m ([.ref h, .long fr, .int nn, .int (bI ng)]).toArray below meth c H locs 0 0 (MQ below (va_Ql (fun (r u : Int64) => r = u) (fun u t => ∃ (w_lo : Bool), M_rounded ct fr nn ng = (u, w_lo) ∧ va_P D vwCl (cMd h q1 q2 cA cB cd ct tf ff td an qb pa aT aF dg fi w_lo) t.heap ∧ va_D A (cMd h q1 q2 cA cB cd ct tf ff td an qb pa aT aF dg fi w_lo)) A) ([.ref h, .long fr, .int nn, .int (bI ng)]).toArray s 0 0 A) (F0 m 76 ls []) := by
    intro v1 v2 v3 v4 e_1 H locs ls hP hD hS hl
    refine lv_iload hx hb dX3_rounded_76 (lv_at hl 1 rfl) ?_
    refine q_cut (v := bI (if bI v3 = 0 then (if nn ≤ 70 then false else (if bI v2 = 0 then false else true)) else true)) (pcJ := 97) (rest := []) (fun J => ?_) ?_
    · refine lv_if_ne (tgt := 92) hx hb dX3_rounded_78 (by decide) (fun c_2 => ?_) (fun c_2 => ?_)
      · refine lv_iconst (v := 1) hx hb dX3_rounded_92 (by decide) ?_
        refine lv_goto (tgt := 97) hx hb dX3_rounded_93 (by decide) ?_
        exact J _ (by rw [if_neg c_2]; try rfl)
      · refine lv_iload_n hx hb dX3_rounded_81 rfl (lv_at hl 6 rfl) ?_
        refine lv_bipush (v := 70) hx hb dX3_rounded_82 (by decide) ?_
        refine lv_icmp_le (tgt := 96) hx hb dX3_rounded_84 (by decide) (fun c_3 => ?_) (fun c_3 => ?_)
        · refine lv_iconst (v := 0) hx hb dX3_rounded_96 (by decide) ?_
          exact J _ (by rw [if_pos c_2, if_pos c_3]; try rfl)
        · refine lv_iload hx hb dX3_rounded_87 (lv_at hl 2 rfl) ?_
          refine lv_if_eq (tgt := 96) hx hb dX3_rounded_89 (by decide) (fun c_4 => ?_) (fun c_4 => ?_)
          · refine lv_iconst (v := 0) hx hb dX3_rounded_96 (by decide) ?_
            exact J _ (by rw [if_pos c_2, if_neg c_3, if_pos c_4]; try rfl)
          · refine lv_iconst (v := 1) hx hb dX3_rounded_92 (by decide) ?_
            refine lv_goto (tgt := 97) hx hb dX3_rounded_93 (by decide) ?_
            exact J _ (by rw [if_pos c_2, if_neg c_3, if_neg c_4]; try rfl)
    refine lv_istore (lv' := [(8, .int (bI (if bI v3 = 0 then (if nn ≤ 70 then false else (if bI v2 = 0 then false else true)) else true))), (9, .int v4), (7, .int (bI v2)), (5, .long v1), (0, .ref h), (1, .long fr), (3, .int nn), (4, .int (bI ng))]) hx hb dX3_rounded_97 hl (by decide) rfl (fun ls hl => ?_)
    refine lv_iload hx hb dX3_rounded_99 (lv_at hl 2 rfl) ?_
    refine q_cut (v := bI (if bI v2 = 0 then false else (if 70 < nn then false else true))) (pcJ := 115) (rest := []) (fun J => ?_) ?_
    · refine lv_if_eq (tgt := 114) hx hb dX3_rounded_101 (by decide) (fun c_5 => ?_) (fun c_5 => ?_)
      · refine lv_iconst (v := 0) hx hb dX3_rounded_114 (by decide) ?_
        exact J _ (by rw [if_pos c_5]; try rfl)
      · refine lv_iload_n hx hb dX3_rounded_104 rfl (lv_at hl 6 rfl) ?_
        refine lv_bipush (v := 70) hx hb dX3_rounded_105 (by decide) ?_
        refine lv_icmp_gt (tgt := 114) hx hb dX3_rounded_107 (by decide) (fun c_6 => ?_) (fun c_6 => ?_)
        · refine lv_iconst (v := 0) hx hb dX3_rounded_114 (by decide) ?_
          exact J _ (by rw [if_neg c_5, if_pos c_6]; try rfl)
        · refine lv_iconst (v := 1) hx hb dX3_rounded_110 (by decide) ?_
          refine lv_goto (tgt := 115) hx hb dX3_rounded_111 (by decide) ?_
          exact J _ (by rw [if_neg c_5, if_neg c_6]; try rfl)
    refine lv_istore (lv' := [(7, .int (bI (if bI v2 = 0 then false else (if 70 < nn then false else true)))), (8, .int (bI (if bI v3 = 0 then (if nn ≤ 70 then false else (if bI v2 = 0 then false else true)) else true))), (9, .int v4), (5, .long v1), (0, .ref h), (1, .long fr), (3, .int nn), (4, .int (bI ng))]) hx hb dX3_rounded_115 hl (by decide) rfl (fun ls hl => ?_)
    refine lv_aload_n hx hb dX3_rounded_117 rfl (lv_at hl 4 rfl) ?_
    refine lv_iload hx hb dX3_rounded_118 (lv_at hl 0 rfl) ?_
    refine q_cut (v := bI (if bI (if bI v2 = 0 then false else (if 70 < nn then false else true)) = 0 then (if bI (if bI v3 = 0 then (if nn ≤ 70 then false else (if bI v2 = 0 then false else true)) else true) = 0 then false else true) else true)) (pcJ := 133) (rest := [.ref h]) (fun J => ?_) ?_
    · refine lv_if_ne (tgt := 128) hx hb dX3_rounded_120 (by decide) (fun c_7 => ?_) (fun c_7 => ?_)
      · refine lv_iconst (v := 1) hx hb dX3_rounded_128 (by decide) ?_
        refine lv_goto (tgt := 133) hx hb dX3_rounded_129 (by decide) ?_
        exact J _ (by rw [if_neg c_7]; try rfl)
      · refine lv_iload hx hb dX3_rounded_123 (lv_at hl 1 rfl) ?_
        refine lv_if_eq (tgt := 132) hx hb dX3_rounded_125 (by decide) (fun c_8 => ?_) (fun c_8 => ?_)
        · refine lv_iconst (v := 0) hx hb dX3_rounded_132 (by decide) ?_
          exact J _ (by rw [if_pos c_7, if_pos c_8]; try rfl)
        · refine lv_iconst (v := 1) hx hb dX3_rounded_128 (by decide) ?_
          refine lv_goto (tgt := 133) hx hb dX3_rounded_129 (by decide) ?_
          exact J _ (by rw [if_pos c_7, if_neg c_8]; try rfl)
    refine va_put (v := .int (bI (if bI (if bI v2 = 0 then false else (if 70 < nn then false else true)) = 0 then (if bI (if bI v3 = 0 then (if nn ≤ 70 then false else (if bI v2 = 0 then false else true)) else true) = 0 then false else true) else true))) (ty := .boolean) (C := RX3) (T := TX3) (N := 13) hx hb hts in_X3 tyX3 tyX3_ok nmX3 hown hK hP hD hS 0 rfl rfl 12 (by decide) w_1 (fun _ h9 => h9) rfl (tyX3_ok 12 (by decide)) (bI_nar _) (bI_fit _) (Nat.le_of_ble_eq_true rfl) dX3_rounded_133 (fun H locs hP hD hS => ?_)
    have hP : va_P D vwCl (cMd h q1 q2 cA cB cd ct tf ff td an qb pa aT aF dg fi (if bI (if bI v2 = 0 then false else (if 70 < nn then false else true)) = 0 then (if bI (if bI v3 = 0 then (if nn ≤ 70 then false else (if bI v2 = 0 then false else true)) else true) = 0 then false else true) else true)) H := hP
    have hD : va_D A (cMd h q1 q2 cA cB cd ct tf ff td an qb pa aT aF dg fi (if bI (if bI v2 = 0 then false else (if 70 < nn then false else true)) = 0 then (if bI (if bI v3 = 0 then (if nn ≤ 70 then false else (if bI v2 = 0 then false else true)) else true) = 0 then false else true) else true)) := hD
    refine lv_aload_n hx hb dX3_rounded_136 rfl (lv_at hl 4 rfl) ?_
    refine vp_callSi (va_cr (va_runV (As := []) (rest := []) ⟨hx, hb, hml, hown, hts⟩ (c_X3_way l D h q1 q2 cA cB cd ct tf ff td an qb pa aT aF dg fi (if bI (if bI v2 = 0 then false else (if 70 < nn then false else true)) = 0 then (if bI (if bI v3 = 0 then (if nn ≤ 70 then false else (if bI v2 = 0 then false else true)) else true) = 0 then false else true) else true)) (cwV 0 hts gX3_rounded_X3_way rfl rfl rfl kV_X3_way ⟨Nat.le_of_ble_eq_true rfl, Nat.le_of_ble_eq_true rfl⟩) ⟨PB.blind, va_recv hK hP (ci := 2) (q0 := 0) rfl rfl, PB.pre hK hP⟩ rfl rfl hl.1 rfl (lv_room (Nat.le_of_ble_eq_true rfl)) dX3_rounded_137 ⟨Nat.le_of_ble_eq_true rfl, Nat.le_of_ble_eq_true rfl⟩)) (fun r9 e9 => ?_)
    rw [e9]
    refine q_cut (v := bI (if (M_way ct) = 0 then (if bI (if bI v2 = 0 then false else (if 70 < nn then false else true)) = 0 then false else (if bI (if bI v3 = 0 then (if nn ≤ 70 then false else (if bI v2 = 0 then false else true)) else true) = 0 then (if (v1 - v1 / 2 * 2) = 1 then true else false) else true)) else (if bI (if bI (if bI v2 = 0 then false else (if 70 < nn then false else true)) = 0 then (if bI (if bI v3 = 0 then (if nn ≤ 70 then false else (if bI v2 = 0 then false else true)) else true) = 0 then false else true) else true) = 0 then false else (if bI ng = 0 then (if (M_way ct) = 2 then true else false) else (if (M_way ct) = 1 then true else false))))) (pcJ := 201) (rest := []) (fun J => ?_) ?_
    · refine lv_if_ne (tgt := 172) hx hb dX3_rounded_140 (by decide) (fun c_9 => ?_) (fun c_9 => ?_)
      · refine lv_aload_n hx hb dX3_rounded_172 rfl (lv_at hl 4 rfl) ?_
        refine va_get (v := .int (bI (if bI (if bI v2 = 0 then false else (if 70 < nn then false else true)) = 0 then (if bI (if bI v3 = 0 then (if nn ≤ 70 then false else (if bI v2 = 0 then false else true)) else true) = 0 then false else true) else true))) (C := RX3) (T := TX3) (N := 13) hx hb hts in_X3 hown hK hP 0 rfl rfl 12 (by decide) w_1 (fun _ h9 => h9) rfl dX3_rounded_173 ?_
        refine lv_if_eq (tgt := 200) hx hb dX3_rounded_176 (by decide) (fun c_10 => ?_) (fun c_10 => ?_)
        · refine lv_iconst (v := 0) hx hb dX3_rounded_200 (by decide) ?_
          exact J _ (by rw [if_neg c_9, if_pos c_10]; try rfl)
        · refine lv_aload_n hx hb dX3_rounded_179 rfl (lv_at hl 4 rfl) ?_
          refine vp_callSi (va_cr (va_runV (As := []) (rest := []) ⟨hx, hb, hml, hown, hts⟩ (c_X3_way l D h q1 q2 cA cB cd ct tf ff td an qb pa aT aF dg fi (if bI (if bI v2 = 0 then false else (if 70 < nn then false else true)) = 0 then (if bI (if bI v3 = 0 then (if nn ≤ 70 then false else (if bI v2 = 0 then false else true)) else true) = 0 then false else true) else true)) (cwV 0 hts gX3_rounded_X3_way rfl rfl rfl kV_X3_way ⟨Nat.le_of_ble_eq_true rfl, Nat.le_of_ble_eq_true rfl⟩) ⟨PB.blind, va_recv hK hP (ci := 2) (q0 := 0) rfl rfl, PB.pre hK hP⟩ rfl rfl hl.1 rfl (lv_room (Nat.le_of_ble_eq_true rfl)) dX3_rounded_180 ⟨Nat.le_of_ble_eq_true rfl, Nat.le_of_ble_eq_true rfl⟩)) (fun r9 e9 => ?_)
          rw [e9]
          refine lv_iload hx hb dX3_rounded_183 (lv_at hl 7 rfl) ?_
          refine lv_if_eq (tgt := 192) hx hb dX3_rounded_185 (by decide) (fun c_11 => ?_) (fun c_11 => ?_)
          · refine lv_iconst (v := 2) hx hb dX3_rounded_192 (by decide) ?_
            refine lv_icmp_ne (tgt := 200) hx hb dX3_rounded_193 (by decide) (fun c_12 => ?_) (fun c_12 => ?_)
            · refine lv_iconst (v := 0) hx hb dX3_rounded_200 (by decide) ?_
              exact J _ (by rw [if_neg c_9, if_neg c_10, if_pos c_11, if_neg c_12]; try rfl)
            · refine lv_iconst (v := 1) hx hb dX3_rounded_196 (by decide) ?_
              refine lv_goto (tgt := 201) hx hb dX3_rounded_197 (by decide) ?_
              exact J _ (by rw [if_neg c_9, if_neg c_10, if_pos c_11, if_pos c_12]; try rfl)
          · refine lv_iconst (v := 1) hx hb dX3_rounded_188 (by decide) ?_
            refine lv_goto (tgt := 193) hx hb dX3_rounded_189 (by decide) ?_
            refine lv_icmp_ne (tgt := 200) hx hb dX3_rounded_193 (by decide) (fun c_13 => ?_) (fun c_13 => ?_)
            · refine lv_iconst (v := 0) hx hb dX3_rounded_200 (by decide) ?_
              exact J _ (by rw [if_neg c_9, if_neg c_10, if_neg c_11, if_neg c_13]; try rfl)
            · refine lv_iconst (v := 1) hx hb dX3_rounded_196 (by decide) ?_
              refine lv_goto (tgt := 201) hx hb dX3_rounded_197 (by decide) ?_
              exact J _ (by rw [if_neg c_9, if_neg c_10, if_neg c_11, if_pos c_13]; try rfl)
      · refine lv_iload hx hb dX3_rounded_143 (lv_at hl 0 rfl) ?_
        refine lv_if_eq (tgt := 168) hx hb dX3_rounded_145 (by decide) (fun c_14 => ?_) (fun c_14 => ?_)
        · refine lv_iconst (v := 0) hx hb dX3_rounded_168 (by decide) ?_
          refine lv_goto (tgt := 201) hx hb dX3_rounded_169 (by decide) ?_
          exact J _ (by rw [if_pos c_9, if_pos c_14]; try rfl)
        · refine lv_iload hx hb dX3_rounded_148 (lv_at hl 1 rfl) ?_
          refine lv_if_ne (tgt := 164) hx hb dX3_rounded_150 (by decide) (fun c_15 => ?_) (fun c_15 => ?_)
          · refine lv_iconst (v := 1) hx hb dX3_rounded_164 (by decide) ?_
            refine lv_goto (tgt := 201) hx hb dX3_rounded_165 (by decide) ?_
            exact J _ (by rw [if_pos c_9, if_neg c_14, if_neg c_15]; try rfl)
          · refine lv_lload hx hb dX3_rounded_153 (lv_at hl 3 rfl) ?_
            refine lv_ldc2 (v := 2) hx hb hown w_3 dX3_rounded_155 ?_
            refine lv_lrem hx hb dX3_rounded_158 (by decide) ?_
            refine lv_lconst (v := 1) hx hb dX3_rounded_159 (by decide) ?_
            refine q_cl_ne (tgt := 168) hx hb dX3_rounded_160 dX3_rounded_161 (by decide) (fun c_16 => ?_) (fun c_16 => ?_)
            · refine lv_iconst (v := 0) hx hb dX3_rounded_168 (by decide) ?_
              refine lv_goto (tgt := 201) hx hb dX3_rounded_169 (by decide) ?_
              exact J _ (by rw [if_pos c_9, if_neg c_14, if_pos c_15, if_neg c_16]; try rfl)
            · refine lv_iconst (v := 1) hx hb dX3_rounded_164 (by decide) ?_
              refine lv_goto (tgt := 201) hx hb dX3_rounded_165 (by decide) ?_
              exact J _ (by rw [if_pos c_9, if_neg c_14, if_pos c_15, if_pos c_16]; try rfl)
    refine lv_istore (lv' := [(9, .int (bI (if (M_way ct) = 0 then (if bI (if bI v2 = 0 then false else (if 70 < nn then false else true)) = 0 then false else (if bI (if bI v3 = 0 then (if nn ≤ 70 then false else (if bI v2 = 0 then false else true)) else true) = 0 then (if (v1 - v1 / 2 * 2) = 1 then true else false) else true)) else (if bI (if bI (if bI v2 = 0 then false else (if 70 < nn then false else true)) = 0 then (if bI (if bI v3 = 0 then (if nn ≤ 70 then false else (if bI v2 = 0 then false else true)) else true) = 0 then false else true) else true) = 0 then false else (if bI ng = 0 then (if (M_way ct) = 2 then true else false) else (if (M_way ct) = 1 then true else false)))))), (7, .int (bI (if bI v2 = 0 then false else (if 70 < nn then false else true)))), (8, .int (bI (if bI v3 = 0 then (if nn ≤ 70 then false else (if bI v2 = 0 then false else true)) else true))), (5, .long v1), (0, .ref h), (1, .long fr), (3, .int nn), (4, .int (bI ng))]) hx hb dX3_rounded_201 hl (by decide) rfl (fun ls hl => ?_)
    refine lv_iload hx hb dX3_rounded_203 (lv_at hl 0 rfl) ?_
    refine q_cutL (v := (if bI (if (M_way ct) = 0 then (if bI (if bI v2 = 0 then false else (if 70 < nn then false else true)) = 0 then false else (if bI (if bI v3 = 0 then (if nn ≤ 70 then false else (if bI v2 = 0 then false else true)) else true) = 0 then (if (v1 - v1 / 2 * 2) = 1 then true else false) else true)) else (if bI (if bI (if bI v2 = 0 then false else (if 70 < nn then false else true)) = 0 then (if bI (if bI v3 = 0 then (if nn ≤ 70 then false else (if bI v2 = 0 then false else true)) else true) = 0 then false else true) else true) = 0 then false else (if bI ng = 0 then (if (M_way ct) = 2 then true else false) else (if (M_way ct) = 1 then true else false)))) = 0 then v1 else (v1 + 1))) (pcJ := 217) (rest := []) (fun J => ?_) ?_
    · refine lv_if_eq (tgt := 215) hx hb dX3_rounded_205 (by decide) (fun c_17 => ?_) (fun c_17 => ?_)
      · refine lv_lload hx hb dX3_rounded_215 (lv_at hl 3 rfl) ?_
        exact J _ (by rw [if_pos c_17]; try rfl)
      · refine lv_lload hx hb dX3_rounded_208 (lv_at hl 3 rfl) ?_
        refine lv_lconst (v := 1) hx hb dX3_rounded_210 (by decide) ?_
        refine lv_ladd hx hb dX3_rounded_211 ?_
        refine lv_goto (tgt := 217) hx hb dX3_rounded_212 (by decide) ?_
        exact J _ (by rw [if_neg c_17]; try rfl)
    have hw : M_rounded ct fr nn ng = ((if bI (if (M_way ct) = 0 then (if bI (if bI v2 = 0 then false else (if 70 < nn then false else true)) = 0 then false else (if bI (if bI v3 = 0 then (if nn ≤ 70 then false else (if bI v2 = 0 then false else true)) else true) = 0 then (if (v1 - v1 / 2 * 2) = 1 then true else false) else true)) else (if bI (if bI (if bI v2 = 0 then false else (if 70 < nn then false else true)) = 0 then (if bI (if bI v3 = 0 then (if nn ≤ 70 then false else (if bI v2 = 0 then false else true)) else true) = 0 then false else true) else true) = 0 then false else (if bI ng = 0 then (if (M_way ct) = 2 then true else false) else (if (M_way ct) = 1 then true else false)))) = 0 then v1 else (v1 + 1)), (if bI (if bI v2 = 0 then false else (if 70 < nn then false else true)) = 0 then (if bI (if bI v3 = 0 then (if nn ≤ 70 then false else (if bI v2 = 0 then false else true)) else true) = 0 then false else true) else true)) := by unfold M_rounded; rw [tup4_e e_1]; try rfl
    exact W.lret hx hb hr (fun t9 ht hW => ⟨⟨_, (if bI (if (M_way ct) = 0 then (if bI (if bI v2 = 0 then false else (if 70 < nn then false else true)) = 0 then false else (if bI (if bI v3 = 0 then (if nn ≤ 70 then false else (if bI v2 = 0 then false else true)) else true) = 0 then (if (v1 - v1 / 2 * 2) = 1 then true else false) else true)) else (if bI (if bI (if bI v2 = 0 then false else (if 70 < nn then false else true)) = 0 then (if bI (if bI v3 = 0 then (if nn ≤ 70 then false else (if bI v2 = 0 then false else true)) else true) = 0 then false else true) else true) = 0 then false else (if bI ng = 0 then (if (M_way ct) = 2 then true else false) else (if (M_way ct) = 1 then true else false)))) = 0 then v1 else (v1 + 1)), rfl, rfl, ⟨(if bI (if bI v2 = 0 then false else (if 70 < nn then false else true)) = 0 then (if bI (if bI v3 = 0 then (if nn ≤ 70 then false else (if bI v2 = 0 then false else true)) else true) = 0 then false else true) else true), hw, by rw [ht]; exact hP, hD⟩⟩, hS.F ht⟩) hS.2.2 dX3_rounded_217
  have LOOP : ∀ (n : Nat) (v1 : Int64) (v2 : Bool) (v3 : Bool) (v4 : Int32), (70 - v4.toInt).toNat < n → M_rdL nn n v1 v2 v3 v4 = M_rdL nn (71) fr false false 0 → ∀ (H : Heap) (locs : List Loc) (ls : Array Slot), va_P D vwCl (cMd h q1 q2 cA cB cd ct tf ff td an qb pa aT aF dg fi lo) H → va_D A (cMd h q1 q2 cA cB cd ct tf ff td an qb pa aT aF dg fi lo) → va_S A s.heap H locs → lv_has ls 10 [(9, .int v4), (8, .int (bI v3)), (7, .int (bI v2)), (5, .long v1), (0, .ref h), (1, .long fr), (3, .int nn), (4, .int (bI ng))] → W p l e (headSpec wsX3_rounded ({ frames := 1, cells := 0, slots := 0, locals := 20 } : Room)).room s m ([.ref h, .long fr, .int nn, .int (bI ng)]).toArray below meth c H locs 0 0 (MQ below (va_Ql (fun (r u : Int64) => r = u) (fun u t => ∃ (w_lo : Bool), M_rounded ct fr nn ng = (u, w_lo) ∧ va_P D vwCl (cMd h q1 q2 cA cB cd ct tf ff td an qb pa aT aF dg fi w_lo) t.heap ∧ va_D A (cMd h q1 q2 cA cB cd ct tf ff td an qb pa aT aF dg fi w_lo)) A) ([.ref h, .long fr, .int nn, .int (bI ng)]).toArray s 0 0 A) (F0 m 12 ls []) := by
    intro n
    induction n with
    | zero => intro v1 v2 v3 v4 hmu; exact absurd hmu (Nat.not_lt_zero _)
    | succ n ih =>
      intro v1 v2 v3 v4 hmu hF H locs ls hP hD hS hl
      refine lv_iload hx hb dX3_rounded_12 (lv_at hl 0 rfl) ?_
      refine lv_iload_n hx hb dX3_rounded_14 rfl (lv_at hl 6 rfl) ?_
      refine lv_icmp_ge (tgt := 76) hx hb dX3_rounded_15 (by decide) (fun c_18 => ?_) (fun c_18 => ?_)
      · rw [M_rdL_S nn n v1 v2 v3 v4] at hF; rw [if_pos c_18] at hF
        exact EXIT v1 v2 v3 v4 hF.symm H locs ls hP hD hS (lv_sub hl [0, 1, 2, 3, 4, 5, 6, 7] rfl)
      · refine lv_iload hx hb dX3_rounded_18 (lv_at hl 0 rfl) ?_
        refine lv_bipush (v := 70) hx hb dX3_rounded_20 (by decide) ?_
        refine lv_icmp_ge (tgt := 76) hx hb dX3_rounded_22 (by decide) (fun c_19 => ?_) (fun c_19 => ?_)
        · rw [M_rdL_S nn n v1 v2 v3 v4] at hF; rw [if_neg c_18, if_pos c_19] at hF
          exact EXIT v1 v2 v3 v4 hF.symm H locs ls hP hD hS (lv_sub hl [0, 1, 2, 3, 4, 5, 6, 7] rfl)
        · refine lv_iload hx hb dX3_rounded_25 (lv_at hl 1 rfl) ?_
          refine q_cut (v := bI (if bI v3 = 0 then (if bI v2 = 0 then false else true) else true)) (pcJ := 40) (rest := []) (fun J => ?_) ?_
          · refine lv_if_ne (tgt := 35) hx hb dX3_rounded_27 (by decide) (fun c_20 => ?_) (fun c_20 => ?_)
            · refine lv_iconst (v := 1) hx hb dX3_rounded_35 (by decide) ?_
              refine lv_goto (tgt := 40) hx hb dX3_rounded_36 (by decide) ?_
              exact J _ (by rw [if_neg c_20]; try rfl)
            · refine lv_iload hx hb dX3_rounded_30 (lv_at hl 2 rfl) ?_
              refine lv_if_eq (tgt := 39) hx hb dX3_rounded_32 (by decide) (fun c_21 => ?_) (fun c_21 => ?_)
              · refine lv_iconst (v := 0) hx hb dX3_rounded_39 (by decide) ?_
                exact J _ (by rw [if_pos c_20, if_pos c_21]; try rfl)
              · refine lv_iconst (v := 1) hx hb dX3_rounded_35 (by decide) ?_
                refine lv_goto (tgt := 40) hx hb dX3_rounded_36 (by decide) ?_
                exact J _ (by rw [if_pos c_20, if_neg c_21]; try rfl)
          refine lv_istore (lv' := [(8, .int (bI (if bI v3 = 0 then (if bI v2 = 0 then false else true) else true))), (9, .int v4), (7, .int (bI v2)), (5, .long v1), (0, .ref h), (1, .long fr), (3, .int nn), (4, .int (bI ng))]) hx hb dX3_rounded_40 hl (by decide) rfl (fun ls hl => ?_)
          refine lv_lload hx hb dX3_rounded_42 (lv_at hl 3 rfl) ?_
          refine lv_ldc2 (v := 2) hx hb hown w_3 dX3_rounded_44 ?_
          refine lv_lrem hx hb dX3_rounded_47 (by decide) ?_
          refine lv_lconst (v := 0) hx hb dX3_rounded_48 (by decide) ?_
          refine q_cut (v := bI (if (v1 - v1 / 2 * 2) = 0 then false else true)) (pcJ := 58) (rest := []) (fun J => ?_) ?_
          · refine q_cl_eq (tgt := 57) hx hb dX3_rounded_49 dX3_rounded_50 (by decide) (fun c_22 => ?_) (fun c_22 => ?_)
            · refine lv_iconst (v := 0) hx hb dX3_rounded_57 (by decide) ?_
              exact J _ (by rw [if_pos c_22]; try rfl)
            · refine lv_iconst (v := 1) hx hb dX3_rounded_53 (by decide) ?_
              refine lv_goto (tgt := 58) hx hb dX3_rounded_54 (by decide) ?_
              exact J _ (by rw [if_neg c_22]; try rfl)
          refine lv_istore (lv' := [(7, .int (bI (if (v1 - v1 / 2 * 2) = 0 then false else true))), (8, .int (bI (if bI v3 = 0 then (if bI v2 = 0 then false else true) else true))), (9, .int v4), (5, .long v1), (0, .ref h), (1, .long fr), (3, .int nn), (4, .int (bI ng))]) hx hb dX3_rounded_58 hl (by decide) rfl (fun ls hl => ?_)
          refine lv_lload hx hb dX3_rounded_60 (lv_at hl 3 rfl) ?_
          refine lv_iconst (v := 1) hx hb dX3_rounded_62 (by decide) ?_
          refine lv_lshr (v := (jlshr v1 1)) hx hb dX3_rounded_63 rfl ?_
          refine lv_ldc2 (v := 9223372036854775807) hx hb hown w_4 dX3_rounded_64 ?_
          refine lv_land hx hb dX3_rounded_67 ?_
          refine lv_lstore (lv' := [(5, .long ((jlshr v1 1) &&& 9223372036854775807)), (7, .int (bI (if (v1 - v1 / 2 * 2) = 0 then false else true))), (8, .int (bI (if bI v3 = 0 then (if bI v2 = 0 then false else true) else true))), (9, .int v4), (0, .ref h), (1, .long fr), (3, .int nn), (4, .int (bI ng))]) hx hb dX3_rounded_68 hl (by decide) rfl (fun ls hl => ?_)
          refine lv_iinc (v := (v4 + 1)) (lv' := [(9, .int (v4 + 1)), (5, .long ((jlshr v1 1) &&& 9223372036854775807)), (7, .int (bI (if (v1 - v1 / 2 * 2) = 0 then false else true))), (8, .int (bI (if bI v3 = 0 then (if bI v2 = 0 then false else true) else true))), (0, .ref h), (1, .long fr), (3, .int nn), (4, .int (bI ng))]) hx hb dX3_rounded_70 hl (k := 3) rfl rfl (by decide) rfl (fun ls hl => ?_)
          refine lv_goto (tgt := 12) hx hb dX3_rounded_73 (by decide) ?_
          exact ih ((jlshr v1 1) &&& 9223372036854775807) (if (v1 - v1 / 2 * 2) = 0 then false else true) (if bI v3 = 0 then (if bI v2 = 0 then false else true) else true) (v4 + 1) (mu_go (mu_70 c_19) hmu) (by rw [← hF, M_rdL_S nn n v1 v2 v3 v4, if_neg c_18, if_neg c_19]) H locs ls hP hD hS (lv_sub hl [0, 3, 2, 1, 4, 5, 6, 7] rfl)
  exact LOOP (71) fr false false 0 (by decide) rfl s.heap _ ls hP hD hS (lv_sub hl [0, 1, 2, 3, 4, 5, 6, 7] rfl)
def M_keep (tf : Nat → Int32) (ff : Nat → Int64) (an : Bool) (aT : Int32) (aF : Int64) (rg : Int32) : (Nat → Int32) × (Nat → Int64) :=
  if bI an = 0 then (tf, ff)
  else ((upd tf rg.toNatClampNeg aT), (vp_updL ff rg.toNatClampNeg aF))
theorem kS_X3_keep : yX3_keep.cls ≠ "java/lang/invoke/MethodHandle" ∧ yX3_keep.cls ≠ "java/lang/invoke/VarHandle" ∧ (parseMethodDescriptor yX3_keep.desc).map (fun d => d.parameters.length) = some 1 := by decide +kernel
theorem kV_X3_keep : yX3_keep.cls = RX3 ∧ yX3_keep.cls ≠ "java/lang/invoke/MethodHandle" ∧ yX3_keep.cls ≠ "java/lang/invoke/VarHandle" ∧ (parseMethodDescriptor yX3_keep.desc).map (fun d => d.parameters.length) = some 1 := ⟨rfl, kS_X3_keep⟩
set_option maxHeartbeats 4000000 in
set_option maxRecDepth 100000 in
theorem c_X3_keep (l : Launch) (D : va_G) (h : Nat) (q1 : Nat) (q2 : Nat) (cA : ClassId) (cB : ClassId) (cd : Int32) (ct : Int32) (tf : Nat → Int32) (ff : Nat → Int64) (td : Int32) (an : Bool) (qb : Int32) (pa : Bool) (aT : Int32) (aF : Int64) (dg : Int64) (fi : Int32) (lo : Bool) (rg : Int32) (sz : Nat) (hrg : vp_in rg 8) : Met l yX3_keep wsX3_keep ({ frames := 0, cells := 0, slots := 0, locals := 0 } : Room) (va_Pc [.ref h, .int rg] (MMB D (tRS cA cB) (cMd h q1 q2 cA cB cd ct tf ff td an qb pa aT aF dg fi lo) sz)) (va_Qv (fun (_ : Unit) => True) (fun _ t => ∃ (w_tf : Nat → Int32) (w_ff : Nat → Int64), M_keep tf ff an aT aF rg = (w_tf, w_ff) ∧ va_P D vwCl (cMd h q1 q2 cA cB cd ct w_tf w_ff td an qb pa aT aF dg fi lo) t.heap ∧ va_D (va_A (cMd h q1 q2 cA cB cd ct tf ff td an qb pa aT aF dg fi lo) sz) (cMd h q1 q2 cA cB cd ct w_tf w_ff td an qb pa aT aF dg fi lo)) (va_A (cMd h q1 q2 cA cB cd ct tf ff td an qb pa aT aF dg fi lo) sz)) 0 0 (va_A (cMd h q1 q2 cA cB cd ct tf ff td an qb pa aT aF dg fi lo) sz) := by
  refine Met.ofW (cc := cX3_keep) (maxL := 2) (ret := none) (by decide) rfl ?_
  intro p e s m args below meth c s₁ B hml hv
  obtain ⟨rfl, hsz, hP, hK, hD0⟩ := hv
  have hx := B.exec
  have hb := B.bytes
  have hr := B.returns
  have hts := atoms_spec (ws := wsX3_keep) B.pre
  have hown : s.vm.findClass RX3 = some m.cls := findClass_of_methodNamed B.named
  have hlocks := B.notSynchronized
  have w_1 := hts (.fieldLink RX3 68 "RealStepsModel" "answered" "Z") (by decide +kernel)
  have in_X3 : ∀ w ∈ wsX30, w ∈ wsX3_keep := by decide +kernel
  have w_3 := hts (.fieldLink RX3 13 "RealStepsModel" "top" "[I") (by decide +kernel)
  have w_4 := hts (.fieldLink RX3 62 "RealStepsModel" "answerTop" "I") (by decide +kernel)
  have w_5 := hts (.fieldLink RX3 17 "RealStepsModel" "fraction" "[J") (by decide +kernel)
  have w_6 := hts (.fieldLink RX3 65 "RealStepsModel" "answerFraction" "J") (by decide +kernel)
  subst hsz
  have hD := hD0.self (sz := s.heap.size)
  generalize hAe : va_A (cMd h q1 q2 cA cB cd ct tf ff td an qb pa aT aF dg fi lo) s.heap.size = A at hD ⊢
  have hA : ∀ q : Nat, s.heap.size ≤ q → A q := fun q h => by rw [← hAe]; exact Or.inr h
  have hS : va_S A s.heap s.heap [] := va_S.rf
  have hP : va_P D vwCl (cMd h q1 q2 cA cB cd ct tf ff td an qb pa aT aF dg fi lo) s.heap := hP
  have hl := lv_entry ([.ref h, .int rg]) (n := 2) (Nat.le_of_ble_eq_true rfl)
  rw [lg_entry_eq]
  generalize (lg_sl ([.ref h, .int rg]) ++ List.replicate (2 - (lg_sl ([.ref h, .int rg])).length) Slot.unset).toArray = ls at hl ⊢
  have hl : lv_has ls 2 [(0, .ref h), (1, .int rg)] := hl
  refine lv_aload_n hx hb dX3_keep_0 rfl (lv_at hl 0 rfl) ?_
  refine va_get (v := .int (bI an)) (C := RX3) (T := TX3) (N := 13) hx hb hts in_X3 hown hK hP 0 rfl rfl 5 (by decide) w_1 (fun _ h9 => h9) rfl dX3_keep_1 ?_
  refine lv_if_ne (tgt := 8) hx hb dX3_keep_4 (by decide) (fun c_1 => ?_) (fun c_1 => ?_)
  · refine lv_aload_n hx hb dX3_keep_8 rfl (lv_at hl 0 rfl) ?_
    refine va_get (v := .ref q1) (C := RX3) (T := TX3) (N := 13) hx hb hts in_X3 hown hK hP 0 rfl rfl 2 (by decide) w_3 (fun _ h9 => h9) rfl dX3_keep_9 ?_
    refine lv_iload_n hx hb dX3_keep_12 rfl (lv_at hl 1 rfl) ?_
    refine lv_aload_n hx hb dX3_keep_13 rfl (lv_at hl 0 rfl) ?_
    refine va_get (v := .int aT) (C := RX3) (T := TX3) (N := 13) hx hb hts in_X3 hown hK hP 0 rfl rfl 8 (by decide) w_4 (fun _ h9 => h9) rfl dX3_keep_14 ?_
    refine va_iast hx hb hK hP hD hS 1 0 rfl rfl hrg dX3_keep_17 (fun H locs hP hD hS => ?_)
    have hP : va_P D vwCl (cMd h q1 q2 cA cB cd ct (upd tf rg.toNatClampNeg aT) ff td an qb pa aT aF dg fi lo) H := hP
    have hD : va_D A (cMd h q1 q2 cA cB cd ct (upd tf rg.toNatClampNeg aT) ff td an qb pa aT aF dg fi lo) := hD
    refine lv_aload_n hx hb dX3_keep_18 rfl (lv_at hl 0 rfl) ?_
    refine va_get (v := .ref q2) (C := RX3) (T := TX3) (N := 13) hx hb hts in_X3 hown hK hP 0 rfl rfl 3 (by decide) w_5 (fun _ h9 => h9) rfl dX3_keep_19 ?_
    refine lv_iload_n hx hb dX3_keep_22 rfl (lv_at hl 1 rfl) ?_
    refine lv_aload_n hx hb dX3_keep_23 rfl (lv_at hl 0 rfl) ?_
    refine va_get (v := .long aF) (C := RX3) (T := TX3) (N := 13) hx hb hts in_X3 hown hK hP 0 rfl rfl 9 (by decide) w_6 (fun _ h9 => h9) rfl dX3_keep_24 ?_
    refine va_last hx hb hK hP hD hS 2 1 rfl rfl hrg dX3_keep_27 (fun H locs hP hD hS => ?_)
    have hP : va_P D vwCl (cMd h q1 q2 cA cB cd ct (upd tf rg.toNatClampNeg aT) (vp_updL ff rg.toNatClampNeg aF) td an qb pa aT aF dg fi lo) H := hP
    have hD : va_D A (cMd h q1 q2 cA cB cd ct (upd tf rg.toNatClampNeg aT) (vp_updL ff rg.toNatClampNeg aF) td an qb pa aT aF dg fi lo) := hD
    have hw : M_keep tf ff an aT aF rg = ((upd tf rg.toNatClampNeg aT), (vp_updL ff rg.toNatClampNeg aF)) := by unfold M_keep; rw [if_neg c_1]; try rfl
    exact W.vret hx hb hr (fun t9 ht hW => ⟨⟨(), rfl, trivial, ⟨(upd tf rg.toNatClampNeg aT), (vp_updL ff rg.toNatClampNeg aF), hw, by rw [ht]; exact hP, hD⟩⟩, hS.F ht⟩) hS.2.2 dX3_keep_28
  · have hw : M_keep tf ff an aT aF rg = (tf, ff) := by unfold M_keep; rw [if_pos c_1]; try rfl
    exact W.vret hx hb hr (fun t9 ht hW => ⟨⟨(), rfl, trivial, ⟨tf, ff, hw, by rw [ht]; exact hP, hD⟩⟩, hS.F ht⟩) hS.2.2 dX3_keep_7
