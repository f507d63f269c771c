def M_dvL (dx : Int64) (dg : Int64) (zc : Int32) : Nat → Int32 → Int64 → Int32 → Int32 × Int64 × Int32
  | 0, v1, v2, v3 => (v1, v2, v3)
  | n + 1, v1, v2, v3 => if (64 + zc) ≤ v3 then ((v1, v2, v3))
    else M_dvL dx dg zc n (((2 * v1) + (bI (if bI (if bI (if v2 < 0 then true else false) = 0 then (if bI (M_less ((2 * v2) + (if 64 ≤ v3 then (0 : Int64) else (if (jlshl dx v3) < 0 then (1 : Int64) else (0 : Int64)))) dg) = 0 then true else false) else true) = 0 then false else true))) - ((2 * v1) + (bI (if bI (if bI (if v2 < 0 then true else false) = 0 then (if bI (M_less ((2 * v2) + (if 64 ≤ v3 then (0 : Int64) else (if (jlshl dx v3) < 0 then (1 : Int64) else (0 : Int64)))) dg) = 0 then true else false) else true) = 0 then false else true))) / 8 * 8) (if bI (if bI (if v2 < 0 then true else false) = 0 then (if bI (M_less ((2 * v2) + (if 64 ≤ v3 then (0 : Int64) else (if (jlshl dx v3) < 0 then (1 : Int64) else (0 : Int64)))) dg) = 0 then true else false) else true) = 0 then ((2 * v2) + (if 64 ≤ v3 then (0 : Int64) else (if (jlshl dx v3) < 0 then (1 : Int64) else (0 : Int64)))) else (((2 * v2) + (if 64 ≤ v3 then (0 : Int64) else (if (jlshl dx v3) < 0 then (1 : Int64) else (0 : Int64)))) - dg)) (v3 + 1)
theorem M_dvL_S (dx : Int64) (dg : Int64) (zc : Int32) (n : Nat) (v1 : Int32) (v2 : Int64) (v3 : Int32) : M_dvL dx dg zc (n + 1) v1 v2 v3 = (if (64 + zc) ≤ v3 then ((v1, v2, v3))
    else M_dvL dx dg zc n (((2 * v1) + (bI (if bI (if bI (if v2 < 0 then true else false) = 0 then (if bI (M_less ((2 * v2) + (if 64 ≤ v3 then (0 : Int64) else (if (jlshl dx v3) < 0 then (1 : Int64) else (0 : Int64)))) dg) = 0 then true else false) else true) = 0 then false else true))) - ((2 * v1) + (bI (if bI (if bI (if v2 < 0 then true else false) = 0 then (if bI (M_less ((2 * v2) + (if 64 ≤ v3 then (0 : Int64) else (if (jlshl dx v3) < 0 then (1 : Int64) else (0 : Int64)))) dg) = 0 then true else false) else true) = 0 then false else true))) / 8 * 8) (if bI (if bI (if v2 < 0 then true else false) = 0 then (if bI (M_less ((2 * v2) + (if 64 ≤ v3 then (0 : Int64) else (if (jlshl dx v3) < 0 then (1 : Int64) else (0 : Int64)))) dg) = 0 then true else false) else true) = 0 then ((2 * v2) + (if 64 ≤ v3 then (0 : Int64) else (if (jlshl dx v3) < 0 then (1 : Int64) else (0 : Int64)))) else (((2 * v2) + (if 64 ≤ v3 then (0 : Int64) else (if (jlshl dx v3) < 0 then (1 : Int64) else (0 : Int64)))) - dg)) (v3 + 1)) := rfl
def M_divide (ct : Int32) (td : Int32) (dg : Int64) (fi : Int32) (lo : Bool) (ta : Int32) (fa : Int64) (tb : Int32) (fb : Int64) : Int32 × Bool × Int32 × Bool × Int32 × Int64 × Int64 × Int32 × Bool :=
  if (M_kind tb fb) = 4 then (tup5 ((M_make ct td lo (M_minus ta) fa (M_unit ta))) (fun otd_3 oan_4 oaT_5 oaF_6 olo_7 =>
      (otd_3, oan_4, 0, false, oaT_5, oaF_6, dg, fi, olo_7)))
  else if bI (M_nothing ta fa) = 0 then (tup2 ((M_apart ta fa)) (fun odg_17 ofi_18 =>
      tup2 ((M_apart tb fb)) (fun odg_20 ofi_21 =>
        if 0 ≤ (ofi_18 - ofi_21) then (tup3 (M_dvL odg_17 odg_20 (if bI (if (ofi_18 - ofi_21) ≤ 63 then false else true) = 0 then (ofi_18 - ofi_21) else (63 : Int32)) ((64 + (if bI (if (ofi_18 - ofi_21) ≤ 63 then false else true) = 0 then (ofi_18 - ofi_21) else (63 : Int32))).toInt.toNat + 1) 0 0 0) (fun v1 v2 v3 =>
            tup5 ((M_make ct td lo (M_minus ta) v2 (((ofi_21 + (ofi_18 - ofi_21)) - (if bI (if (ofi_18 - ofi_21) ≤ 63 then false else true) = 0 then (ofi_18 - ofi_21) else (63 : Int32))) - 63))) (fun otd_27 oan_28 oaT_29 oaF_30 olo_31 =>
              (otd_27, oan_28, v1, (if (ofi_18 - ofi_21) ≤ 63 then false else true), oaT_29, oaF_30, odg_20, ofi_21, olo_31))))
        else (tup5 ((M_make ct td lo (M_minus ta) fa (M_unit ta))) (fun otd_41 oan_42 oaT_43 oaF_44 olo_45 =>
            (otd_41, oan_42, 0, false, oaT_43, oaF_44, odg_20, ofi_21, olo_45))))))
  else (tup5 ((M_make ct td lo (M_minus ta) fa (M_unit ta))) (fun otd_11 oan_12 oaT_13 oaF_14 olo_15 =>
      (otd_11, oan_12, 0, false, oaT_13, oaF_14, dg, fi, olo_15)))
theorem kS_X3_divide : yX3_divide.cls ≠ "java/lang/invoke/MethodHandle" ∧ yX3_divide.cls ≠ "java/lang/invoke/VarHandle" ∧ (parseMethodDescriptor yX3_divide.desc).map (fun d => d.parameters.length) = some 2 := by decide +kernel
theorem kV_X3_divide : yX3_divide.cls = RX3 ∧ yX3_divide.cls ≠ "java/lang/invoke/MethodHandle" ∧ yX3_divide.cls ≠ "java/lang/invoke/VarHandle" ∧ (parseMethodDescriptor yX3_divide.desc).map (fun d => d.parameters.length) = some 2 := ⟨rfl, kS_X3_divide⟩
set_option maxHeartbeats 4000000 in
set_option maxRecDepth 100000 in
theorem c_X3_divide (l : Launch) (D : va_G) (h : Nat) (q1 : Nat) (q2 : Nat) (cA : ClassId) (cB : ClassId) (cd : Int32) (ct : Int32) (tf : Nat → Int32) (ff : Nat → Int64) (td : Int32) (an : Bool) (qb : Int32) (pa : Bool) (aT : Int32) (aF : Int64) (dg : Int64) (fi : Int32) (lo : Bool) (ra : Int32) (rb : Int32) (sz : Nat) (hra : vp_in ra 8) (hrb : vp_in rb 8) : Met l yX3_divide wsX3_divide ({ frames := 3, cells := 0, slots := 0, locals := 81 } : Room) (va_Pc [.ref h, .int ra, .int rb] (MMB D (tRS cA cB) (cMd h q1 q2 cA cB cd ct tf ff td an qb pa aT aF dg fi lo) sz)) (va_Qv (fun (_ : Unit) => True) (fun _ t => ∃ (w_td : Int32) (w_an : Bool) (w_qb : Int32) (w_pa : Bool) (w_aT : Int32) (w_aF : Int64) (w_dg : Int64) (w_fi : Int32) (w_lo : Bool), M_divide ct td dg fi lo (tf ra.toNatClampNeg) (ff ra.toNatClampNeg) (tf rb.toNatClampNeg) (ff rb.toNatClampNeg) = (w_td, w_an, w_qb, w_pa, w_aT, w_aF, w_dg, w_fi, w_lo) ∧ va_P D vwCl (cMd h q1 q2 cA cB cd ct tf ff w_td w_an w_qb w_pa w_aT w_aF w_dg w_fi w_lo) t.heap ∧ va_D (va_A (cMd h q1 q2 cA cB cd ct tf ff td an qb pa aT aF dg fi lo) sz) (cMd h q1 q2 cA cB cd ct tf ff w_td w_an w_qb w_pa w_aT w_aF w_dg w_fi w_lo)) (va_A (cMd h q1 q2 cA cB cd ct tf ff td an qb pa aT aF dg fi lo) sz)) 0 0 (va_A (cMd h q1 q2 cA cB cd ct tf ff td an qb pa aT aF dg fi lo) sz) := by
  refine Met.ofW (cc := cX3_divide) (maxL := 12) (ret := none) (by decide) rfl ?_
  intro p e s m args below meth c s₁ B hml hv
  obtain ⟨rfl, hsz, hP, hK, hD0⟩ := hv
  have hx := B.exec
  have hb := B.bytes
  have hr := B.returns
  have hts := atoms_spec (ws := wsX3_divide) B.pre
  have hown : s.vm.findClass RX3 = some m.cls := findClass_of_methodNamed B.named
  have hlocks := B.notSynchronized
  have w_1 := hts (.fieldLink RX3 136 "RealStepsModel" "quotient" "I") (by decide +kernel)
  have in_X3 : ∀ w ∈ wsX30, w ∈ wsX3_divide := by decide +kernel
  have w_3 := hts (.fieldLink RX3 139 "RealStepsModel" "partial" "Z") (by decide +kernel)
  have w_4 := hts (.fieldLink RX3 17 "RealStepsModel" "fraction" "[J") (by decide +kernel)
  have w_5 := hts (.fieldLink RX3 50 "RealStepsModel" "digits" "J") (by decide +kernel)
  have w_6 := hts (.fieldLink RX3 57 "RealStepsModel" "first" "I") (by decide +kernel)
  have w_7 := hts (.constantLong RX3 60 (2)) (by decide +kernel)
  subst hsz
  have hD := hD0.self (sz := s.heap.size)
  generalize hAe : va_A (cMd h q1 q2 cA cB cd ct tf ff td an qb pa aT aF dg fi lo) s.heap.size = A at hD ⊢
  have hA : ∀ q : Nat, s.heap.size ≤ q → A q := fun q h => by rw [← hAe]; exact Or.inr h
  have hS : va_S A s.heap s.heap [] := va_S.rf
  have hP : va_P D vwCl (cMd h q1 q2 cA cB cd ct tf ff td an qb pa aT aF dg fi lo) s.heap := hP
  have hl := lv_entry ([.ref h, .int ra, .int rb]) (n := 12) (Nat.le_of_ble_eq_true rfl)
  rw [lg_entry_eq]
  generalize (lg_sl ([.ref h, .int ra, .int rb]) ++ List.replicate (12 - (lg_sl ([.ref h, .int ra, .int rb])).length) Slot.unset).toArray = ls at hl ⊢
  have hl : lv_has ls 12 [(0, .ref h), (1, .int ra), (2, .int rb)] := hl
  refine lv_aload_n hx hb dX3_divide_0 rfl (lv_at hl 0 rfl) ?_
  refine lv_iconst (v := 0) hx hb dX3_divide_1 (by decide) ?_
  refine va_put (v := .int 0) (ty := .int) (C := RX3) (T := TX3) (N := 13) hx hb hts in_X3 tyX3 tyX3_ok nmX3 hown hK hP hD hS 0 rfl rfl 6 (by decide) w_1 (fun _ h9 => h9) rfl (tyX3_ok 6 (by decide)) rfl rfl (Nat.le_of_ble_eq_true rfl) dX3_divide_2 (fun H locs hP hD hS => ?_)
  have hP : va_P D vwCl (cMd h q1 q2 cA cB cd ct tf ff td an 0 pa aT aF dg fi lo) H := hP
  have hD : va_D A (cMd h q1 q2 cA cB cd ct tf ff td an 0 pa aT aF dg fi lo) := hD
  refine lv_aload_n hx hb dX3_divide_5 rfl (lv_at hl 0 rfl) ?_
  refine lv_iconst (v := 0) hx hb dX3_divide_6 (by decide) ?_
  refine va_put (v := .int 0) (ty := .boolean) (C := RX3) (T := TX3) (N := 13) hx hb hts in_X3 tyX3 tyX3_ok nmX3 hown hK hP hD hS 0 rfl rfl 7 (by decide) w_3 (fun _ h9 => h9) rfl (tyX3_ok 7 (by decide)) rfl rfl (Nat.le_of_ble_eq_true rfl) dX3_divide_7 (fun H locs hP hD hS => ?_)
  have hP : va_P D vwCl (cMd h q1 q2 cA cB cd ct tf ff td an 0 false aT aF dg fi lo) H := hP
  have hD : va_D A (cMd h q1 q2 cA cB cd ct tf ff td an 0 false aT aF dg fi lo) := hD
  refine lv_iconst (v := (-1)) hx hb dX3_divide_10 (by decide) ?_
  refine lv_istore_n (lv' := [(3, .int (-1)), (0, .ref h), (1, .int ra), (2, .int rb)]) hx hb dX3_divide_11 rfl hl (by decide) rfl (fun ls hl => ?_)
  refine lv_lconst (v := 0) hx hb dX3_divide_12 (by decide) ?_
  refine lv_lstore (lv' := [(4, .long 0), (3, .int (-1)), (0, .ref h), (1, .int ra), (2, .int rb)]) hx hb dX3_divide_13 hl (by decide) rfl (fun ls hl => ?_)
  refine lv_aload_n hx hb dX3_divide_15 rfl (lv_at hl 2 rfl) ?_
  refine lv_iload_n hx hb dX3_divide_16 rfl (lv_at hl 4 rfl) ?_
  refine vp_callSi (va_cr (va_runV (As := [.int rb]) (rest := []) ⟨hx, hb, hml, hown, hts⟩ (c_X3_kind l D h q1 q2 cA cB cd ct tf ff td an 0 false aT aF dg fi lo rb hrb) (cwV 1 hts gX3_divide_X3_kind rfl rfl rfl kV_X3_kind ⟨Nat.le_of_ble_eq_true rfl, Nat.le_of_ble_eq_true rfl⟩) ⟨PB.blind, va_recv hK hP (ci := 2) (q0 := 0) rfl rfl, PB.pre hK hP⟩ rfl rfl hl.1 rfl (lv_room (Nat.le_of_ble_eq_true rfl)) dX3_divide_17 ⟨Nat.le_of_ble_eq_true rfl, Nat.le_of_ble_eq_true rfl⟩)) (fun r9 e9 => ?_)
  rw [e9]
  refine lv_iconst (v := 4) hx hb dX3_divide_20 (by decide) ?_
  refine lv_icmp_eq (tgt := 60) hx hb dX3_divide_21 (by decide) (fun c_1 => ?_) (fun c_1 => ?_)
  · refine lv_iload_n hx hb dX3_divide_60 rfl (lv_at hl 1 rfl) ?_
    refine lv_if_ge (tgt := 85) hx hb dX3_divide_61 (by decide) (fun c_2 => ?_) (fun c_2 => ?_)
    · exact absurd c_2 (by decide)
    · refine lv_aload_n hx hb dX3_divide_64 rfl (lv_at hl 2 rfl) ?_
      refine lv_aload_n hx hb dX3_divide_65 rfl (lv_at hl 2 rfl) ?_
      refine lv_iload_n hx hb dX3_divide_66 rfl (lv_at hl 3 rfl) ?_
      refine vp_callSi (va_cr (va_runV (As := [.int ra]) (rest := [.ref h]) ⟨hx, hb, hml, hown, hts⟩ (c_X3_minus l D h q1 q2 cA cB cd ct tf ff td an 0 false aT aF dg fi lo ra hra) (cwV 1 hts gX3_divide_X3_minus rfl rfl rfl kV_X3_minus ⟨Nat.le_of_ble_eq_true rfl, Nat.le_of_ble_eq_true rfl⟩) ⟨PB.blind, va_recv hK hP (ci := 2) (q0 := 0) rfl rfl, PB.pre hK hP⟩ rfl rfl hl.1 rfl (lv_room (Nat.le_of_ble_eq_true rfl)) dX3_divide_67 ⟨Nat.le_of_ble_eq_true rfl, Nat.le_of_ble_eq_true rfl⟩)) (fun r9 e9 => ?_)
      rw [e9]
      refine lv_aload_n hx hb dX3_divide_70 rfl (lv_at hl 2 rfl) ?_
      refine va_get (v := .ref q2) (C := RX3) (T := TX3) (N := 13) hx hb hts in_X3 hown hK hP 0 rfl rfl 3 (by decide) w_4 (fun _ h9 => h9) rfl dX3_divide_71 ?_
      refine lv_iload_n hx hb dX3_divide_74 rfl (lv_at hl 3 rfl) ?_
      refine va_lald hx hb hK hP 2 1 rfl rfl hra dX3_divide_75 ?_
      refine lv_aload_n hx hb dX3_divide_76 rfl (lv_at hl 2 rfl) ?_
      refine lv_iload_n hx hb dX3_divide_77 rfl (lv_at hl 3 rfl) ?_
      refine vp_callSi (va_cr (va_runV (As := [.int ra]) (rest := [.long (ff ra.toNatClampNeg), .int (bI (M_minus (tf ra.toNatClampNeg))), .ref h]) ⟨hx, hb, hml, hown, hts⟩ (c_X3_unit l D h q1 q2 cA cB cd ct tf ff td an 0 false aT aF dg fi lo ra hra) (cwV 1 hts gX3_divide_X3_unit rfl rfl rfl kV_X3_unit ⟨Nat.le_of_ble_eq_true rfl, Nat.le_of_ble_eq_true rfl⟩) ⟨PB.blind, va_recv hK hP (ci := 2) (q0 := 0) rfl rfl, PB.pre hK hP⟩ rfl rfl hl.1 rfl (lv_room (Nat.le_of_ble_eq_true rfl)) dX3_divide_78 ⟨Nat.le_of_ble_eq_true rfl, Nat.le_of_ble_eq_true rfl⟩)) (fun r9 e9 => ?_)
      rw [e9]
      have hFc := va_free (wc := cMd h q1 q2 cA cB cd ct tf ff td an 0 false aT aF dg fi lo) hD hS hA [0, 1, 2] rfl
      refine va_callv (va_runV (As := [.int (bI (M_minus (tf ra.toNatClampNeg))), .long (ff ra.toNatClampNeg), .int (M_unit (tf ra.toNatClampNeg))]) (rest := []) ⟨hx, hb, hml, hown, hts⟩ (c_X3_make l D h q1 q2 cA cB cd ct tf ff td an 0 false aT aF dg fi lo (M_minus (tf ra.toNatClampNeg)) (ff ra.toNatClampNeg) (M_unit (tf ra.toNatClampNeg)) H.size) (cwV 3 hts gX3_divide_X3_make rfl rfl rfl kV_X3_make ⟨Nat.le_of_ble_eq_true rfl, Nat.le_of_ble_eq_true rfl⟩) ⟨MMB.blind, va_recv hK hP (ci := 2) (q0 := 0) rfl rfl, MMB.pre hK hP hD⟩ rfl rfl hl.1 rfl (lv_room (Nat.le_of_ble_eq_true rfl)) dX3_divide_81 ⟨Nat.le_of_ble_eq_true rfl, Nat.le_of_ble_eq_true rfl⟩) hS (fun q _ h9 => hFc q h9) hFc (fun u9 t9 H locs ht hvm hw hB hz1 hk1 hS => ?_)
      obtain ⟨otd_3, oan_4, oaT_5, oaF_6, olo_7, e_8, hP, hD9⟩ := hB
      rw [ht] at hP
      have hD : va_D A (cMd h q1 q2 cA cB cd ct tf ff otd_3 oan_4 0 false oaT_5 oaF_6 dg fi olo_7) := hD9.weaken (fun _ _ _ h => hFc _ h)
      have hw : M_divide ct td dg fi lo (tf ra.toNatClampNeg) (ff ra.toNatClampNeg) (tf rb.toNatClampNeg) (ff rb.toNatClampNeg) = (otd_3, oan_4, 0, false, oaT_5, oaF_6, dg, fi, olo_7) := by unfold M_divide; rw [if_pos c_1, tup5_e e_8]; try rfl
      exact W.vret hx hb hr (fun t9 ht hW => ⟨⟨(), rfl, trivial, ⟨otd_3, oan_4, 0, false, oaT_5, oaF_6, dg, fi, olo_7, hw, by rw [ht]; exact hP, hD⟩⟩, hS.F ht⟩) hS.2.2 dX3_divide_84
  · refine lv_aload_n hx hb dX3_divide_24 rfl (lv_at hl 2 rfl) ?_
    refine lv_iload_n hx hb dX3_divide_25 rfl (lv_at hl 3 rfl) ?_
    refine vp_callSi (va_cr (va_runV (As := [.int ra]) (rest := []) ⟨hx, hb, hml, hown, hts⟩ (c_X3_nothing l D h q1 q2 cA cB cd ct tf ff td an 0 false aT aF dg fi lo ra hra) (cwV 1 hts gX3_divide_X3_nothing rfl rfl rfl kV_X3_nothing ⟨Nat.le_of_ble_eq_true rfl, Nat.le_of_ble_eq_true rfl⟩) ⟨PB.blind, va_recv hK hP (ci := 2) (q0 := 0) rfl rfl, PB.pre hK hP⟩ rfl rfl hl.1 rfl (lv_room (Nat.le_of_ble_eq_true rfl)) dX3_divide_26 ⟨Nat.le_of_ble_eq_true rfl, Nat.le_of_ble_eq_true rfl⟩)) (fun r9 e9 => ?_)
    rw [e9]
    refine lv_if_ne (tgt := 60) hx hb dX3_divide_29 (by decide) (fun c_9 => ?_) (fun c_9 => ?_)
    · refine lv_iload_n hx hb dX3_divide_60 rfl (lv_at hl 1 rfl) ?_
      refine lv_if_ge (tgt := 85) hx hb dX3_divide_61 (by decide) (fun c_10 => ?_) (fun c_10 => ?_)
      · exact absurd c_10 (by decide)
      · refine lv_aload_n hx hb dX3_divide_64 rfl (lv_at hl 2 rfl) ?_
        refine lv_aload_n hx hb dX3_divide_65 rfl (lv_at hl 2 rfl) ?_
        refine lv_iload_n hx hb dX3_divide_66 rfl (lv_at hl 3 rfl) ?_
        refine vp_callSi (va_cr (va_runV (As := [.int ra]) (rest := [.ref h]) ⟨hx, hb, hml, hown, hts⟩ (c_X3_minus l D h q1 q2 cA cB cd ct tf ff td an 0 false aT aF dg fi lo ra hra) (cwV 1 hts gX3_divide_X3_minus rfl rfl rfl kV_X3_minus ⟨Nat.le_of_ble_eq_true rfl, Nat.le_of_ble_eq_true rfl⟩) ⟨PB.blind, va_recv hK hP (ci := 2) (q0 := 0) rfl rfl, PB.pre hK hP⟩ rfl rfl hl.1 rfl (lv_room (Nat.le_of_ble_eq_true rfl)) dX3_divide_67 ⟨Nat.le_of_ble_eq_true rfl, Nat.le_of_ble_eq_true rfl⟩)) (fun r9 e9 => ?_)
        rw [e9]
        refine lv_aload_n hx hb dX3_divide_70 rfl (lv_at hl 2 rfl) ?_
        refine va_get (v := .ref q2) (C := RX3) (T := TX3) (N := 13) hx hb hts in_X3 hown hK hP 0 rfl rfl 3 (by decide) w_4 (fun _ h9 => h9) rfl dX3_divide_71 ?_
        refine lv_iload_n hx hb dX3_divide_74 rfl (lv_at hl 3 rfl) ?_
        refine va_lald hx hb hK hP 2 1 rfl rfl hra dX3_divide_75 ?_
        refine lv_aload_n hx hb dX3_divide_76 rfl (lv_at hl 2 rfl) ?_
        refine lv_iload_n hx hb dX3_divide_77 rfl (lv_at hl 3 rfl) ?_
        refine vp_callSi (va_cr (va_runV (As := [.int ra]) (rest := [.long (ff ra.toNatClampNeg), .int (bI (M_minus (tf ra.toNatClampNeg))), .ref h]) ⟨hx, hb, hml, hown, hts⟩ (c_X3_unit l D h q1 q2 cA cB cd ct tf ff td an 0 false aT aF dg fi lo ra hra) (cwV 1 hts gX3_divide_X3_unit rfl rfl rfl kV_X3_unit ⟨Nat.le_of_ble_eq_true rfl, Nat.le_of_ble_eq_true rfl⟩) ⟨PB.blind, va_recv hK hP (ci := 2) (q0 := 0) rfl rfl, PB.pre hK hP⟩ rfl rfl hl.1 rfl (lv_room (Nat.le_of_ble_eq_true rfl)) dX3_divide_78 ⟨Nat.le_of_ble_eq_true rfl, Nat.le_of_ble_eq_true rfl⟩)) (fun r9 e9 => ?_)
        rw [e9]
        have hFc := va_free (wc := cMd h q1 q2 cA cB cd ct tf ff td an 0 false aT aF dg fi lo) hD hS hA [0, 1, 2] rfl
        refine va_callv (va_runV (As := [.int (bI (M_minus (tf ra.toNatClampNeg))), .long (ff ra.toNatClampNeg), .int (M_unit (tf ra.toNatClampNeg))]) (rest := []) ⟨hx, hb, hml, hown, hts⟩ (c_X3_make l D h q1 q2 cA cB cd ct tf ff td an 0 false aT aF dg fi lo (M_minus (tf ra.toNatClampNeg)) (ff ra.toNatClampNeg) (M_unit (tf ra.toNatClampNeg)) H.size) (cwV 3 hts gX3_divide_X3_make rfl rfl rfl kV_X3_make ⟨Nat.le_of_ble_eq_true rfl, Nat.le_of_ble_eq_true rfl⟩) ⟨MMB.blind, va_recv hK hP (ci := 2) (q0 := 0) rfl rfl, MMB.pre hK hP hD⟩ rfl rfl hl.1 rfl (lv_room (Nat.le_of_ble_eq_true rfl)) dX3_divide_81 ⟨Nat.le_of_ble_eq_true rfl, Nat.le_of_ble_eq_true rfl⟩) hS (fun q _ h9 => hFc q h9) hFc (fun u9 t9 H locs ht hvm hw hB hz1 hk1 hS => ?_)
        obtain ⟨otd_11, oan_12, oaT_13, oaF_14, olo_15, e_16, hP, hD9⟩ := hB
        rw [ht] at hP
        have hD : va_D A (cMd h q1 q2 cA cB cd ct tf ff otd_11 oan_12 0 false oaT_13 oaF_14 dg fi olo_15) := hD9.weaken (fun _ _ _ h => hFc _ h)
        have hw : M_divide ct td dg fi lo (tf ra.toNatClampNeg) (ff ra.toNatClampNeg) (tf rb.toNatClampNeg) (ff rb.toNatClampNeg) = (otd_11, oan_12, 0, false, oaT_13, oaF_14, dg, fi, olo_15) := by unfold M_divide; rw [if_neg c_1, if_neg c_9, tup5_e e_16]; try rfl
        exact W.vret hx hb hr (fun t9 ht hW => ⟨⟨(), rfl, trivial, ⟨otd_11, oan_12, 0, false, oaT_13, oaF_14, dg, fi, olo_15, hw, by rw [ht]; exact hP, hD⟩⟩, hS.F ht⟩) hS.2.2 dX3_divide_84
    · refine lv_aload_n hx hb dX3_divide_32 rfl (lv_at hl 2 rfl) ?_
      refine lv_iload_n hx hb dX3_divide_33 rfl (lv_at hl 3 rfl) ?_
      have hFc := va_free (wc := cMd h q1 q2 cA cB cd ct tf ff td an 0 false aT aF dg fi lo) hD hS hA [0, 1, 2] rfl
      refine va_callv (va_runV (As := [.int ra]) (rest := []) ⟨hx, hb, hml, hown, hts⟩ (c_X3_apart l D h q1 q2 cA cB cd ct tf ff td an 0 false aT aF dg fi lo ra H.size hra) (cwV 1 hts gX3_divide_X3_apart rfl rfl rfl kV_X3_apart ⟨Nat.le_of_ble_eq_true rfl, Nat.le_of_ble_eq_true rfl⟩) ⟨MMB.blind, va_recv hK hP (ci := 2) (q0 := 0) rfl rfl, MMB.pre hK hP hD⟩ rfl rfl hl.1 rfl (lv_room (Nat.le_of_ble_eq_true rfl)) dX3_divide_34 ⟨Nat.le_of_ble_eq_true rfl, Nat.le_of_ble_eq_true rfl⟩) hS (fun q _ h9 => hFc q h9) hFc (fun u9 t9 H locs ht hvm hw hB hz1 hk1 hS => ?_)
      obtain ⟨odg_17, ofi_18, e_19, hP, hD9⟩ := hB
      rw [ht] at hP
      have hD : va_D A (cMd h q1 q2 cA cB cd ct tf ff td an 0 false aT aF odg_17 ofi_18 lo) := hD9.weaken (fun _ _ _ h => hFc _ h)
      refine lv_aload_n hx hb dX3_divide_37 rfl (lv_at hl 2 rfl) ?_
      refine va_get (v := .long odg_17) (C := RX3) (T := TX3) (N := 13) hx hb hts in_X3 hown hK hP 0 rfl rfl 10 (by decide) w_5 (fun _ h9 => h9) rfl dX3_divide_38 ?_
      refine lv_lstore (lv' := [(4, .long odg_17), (3, .int (-1)), (0, .ref h), (1, .int ra), (2, .int rb)]) hx hb dX3_divide_41 hl (by decide) rfl (fun ls hl => ?_)
      refine lv_aload_n hx hb dX3_divide_43 rfl (lv_at hl 2 rfl) ?_
      refine va_get (v := .int ofi_18) (C := RX3) (T := TX3) (N := 13) hx hb hts in_X3 hown hK hP 0 rfl rfl 11 (by decide) w_6 (fun _ h9 => h9) rfl dX3_divide_44 ?_
      refine lv_istore_n (lv' := [(3, .int ofi_18), (4, .long odg_17), (0, .ref h), (1, .int ra), (2, .int rb)]) hx hb dX3_divide_47 rfl hl (by decide) rfl (fun ls hl => ?_)
      refine lv_aload_n hx hb dX3_divide_48 rfl (lv_at hl 2 rfl) ?_
      refine lv_iload_n hx hb dX3_divide_49 rfl (lv_at hl 4 rfl) ?_
      have hFc := va_free (wc := cMd h q1 q2 cA cB cd ct tf ff td an 0 false aT aF odg_17 ofi_18 lo) hD hS hA [0, 1, 2] rfl
      refine va_callv (va_runV (As := [.int rb]) (rest := []) ⟨hx, hb, hml, hown, hts⟩ (c_X3_apart l D h q1 q2 cA cB cd ct tf ff td an 0 false aT aF odg_17 ofi_18 lo rb H.size hrb) (cwV 1 hts gX3_divide_X3_apart rfl rfl rfl kV_X3_apart ⟨Nat.le_of_ble_eq_true rfl, Nat.le_of_ble_eq_true rfl⟩) ⟨MMB.blind, va_recv hK hP (ci := 2) (q0 := 0) rfl rfl, MMB.pre hK hP hD⟩ rfl rfl hl.1 rfl (lv_room (Nat.le_of_ble_eq_true rfl)) dX3_divide_50 ⟨Nat.le_of_ble_eq_true rfl, Nat.le_of_ble_eq_true rfl⟩) hS (fun q _ h9 => hFc q h9) hFc (fun u9 t9 H locs ht hvm hw hB hz1 hk1 hS => ?_)
      obtain ⟨odg_20, ofi_21, e_22, hP, hD9⟩ := hB
      rw [ht] at hP
      have hD : va_D A (cMd h q1 q2 cA cB cd ct tf ff td an 0 false aT aF odg_20 ofi_21 lo) := hD9.weaken (fun _ _ _ h => hFc _ h)
      refine lv_iload_n hx hb dX3_divide_53 rfl (lv_at hl 0 rfl) ?_
      refine lv_aload_n hx hb dX3_divide_54 rfl (lv_at hl 2 rfl) ?_
      refine va_get (v := .int ofi_21) (C := RX3) (T := TX3) (N := 13) hx hb hts in_X3 hown hK hP 0 rfl rfl 11 (by decide) w_6 (fun _ h9 => h9) rfl dX3_divide_55 ?_
      refine lv_isub hx hb dX3_divide_58 ?_
      refine lv_istore_n (lv' := [(3, .int (ofi_18 - ofi_21)), (4, .long odg_17), (0, .ref h), (1, .int ra), (2, .int rb)]) hx hb dX3_divide_59 rfl hl (by decide) rfl (fun ls hl => ?_)
      refine lv_iload_n hx hb dX3_divide_60 rfl (lv_at hl 0 rfl) ?_
      refine lv_if_ge (tgt := 85) hx hb dX3_divide_61 (by decide) (fun c_23 => ?_) (fun c_23 => ?_)
      · refine lv_aload_n hx hb dX3_divide_85 rfl (lv_at hl 2 rfl) ?_
        refine lv_iload_n hx hb dX3_divide_86 rfl (lv_at hl 0 rfl) ?_
        refine lv_bipush (v := 63) hx hb dX3_divide_87 (by decide) ?_
        refine q_cut (v := bI (if (ofi_18 - ofi_21) ≤ 63 then false else true)) (pcJ := 97) (rest := [.ref h]) (fun J => ?_) ?_
        · refine lv_icmp_le (tgt := 96) hx hb dX3_divide_89 (by decide) (fun c_24 => ?_) (fun c_24 => ?_)
          · refine lv_iconst (v := 0) hx hb dX3_divide_96 (by decide) ?_
            exact J _ (by rw [if_pos c_24]; try rfl)
          · refine lv_iconst (v := 1) hx hb dX3_divide_92 (by decide) ?_
            refine lv_goto (tgt := 97) hx hb dX3_divide_93 (by decide) ?_
            exact J _ (by rw [if_neg c_24]; try rfl)
        refine va_put (v := .int (bI (if (ofi_18 - ofi_21) ≤ 63 then false else true))) (ty := .boolean) (C := RX3) (T := TX3) (N := 13) hx hb hts in_X3 tyX3 tyX3_ok nmX3 hown hK hP hD hS 0 rfl rfl 7 (by decide) w_3 (fun _ h9 => h9) rfl (tyX3_ok 7 (by decide)) (bI_nar _) (bI_fit _) (Nat.le_of_ble_eq_true rfl) dX3_divide_97 (fun H locs hP hD hS => ?_)
        have hP : va_P D vwCl (cMd h q1 q2 cA cB cd ct tf ff td an 0 (if (ofi_18 - ofi_21) ≤ 63 then false else true) aT aF odg_20 ofi_21 lo) H := hP
        have hD : va_D A (cMd h q1 q2 cA cB cd ct tf ff td an 0 (if (ofi_18 - ofi_21) ≤ 63 then false else true) aT aF odg_20 ofi_21 lo) := hD
        refine lv_aload_n hx hb dX3_divide_100 rfl (lv_at hl 2 rfl) ?_
        refine va_get (v := .int (bI (if (ofi_18 - ofi_21) ≤ 63 then false else true))) (C := RX3) (T := TX3) (N := 13) hx hb hts in_X3 hown hK hP 0 rfl rfl 7 (by decide) w_3 (fun _ h9 => h9) rfl dX3_divide_101 ?_
        refine q_cut (v := (if bI (if (ofi_18 - ofi_21) ≤ 63 then false else true) = 0 then (ofi_18 - ofi_21) else (63 : Int32))) (pcJ := 113) (rest := []) (fun J => ?_) ?_
        · refine lv_if_eq (tgt := 112) hx hb dX3_divide_104 (by decide) (fun c_25 => ?_) (fun c_25 => ?_)
          · refine lv_iload_n hx hb dX3_divide_112 rfl (lv_at hl 0 rfl) ?_
            exact J _ (by rw [if_pos c_25]; try rfl)
          · refine lv_bipush (v := 63) hx hb dX3_divide_107 (by decide) ?_
            refine lv_goto (tgt := 113) hx hb dX3_divide_109 (by decide) ?_
            exact J _ (by rw [if_neg c_25]; try rfl)
        refine lv_istore (lv' := [(6, .int (if bI (if (ofi_18 - ofi_21) ≤ 63 then false else true) = 0 then (ofi_18 - ofi_21) else (63 : Int32))), (3, .int (ofi_18 - ofi_21)), (4, .long odg_17), (0, .ref h), (1, .int ra), (2, .int rb)]) hx hb dX3_divide_113 hl (by decide) rfl (fun ls hl => ?_)
        refine lv_lconst (v := 0) hx hb dX3_divide_115 (by decide) ?_
        refine lv_lstore (lv' := [(7, .long 0), (6, .int (if bI (if (ofi_18 - ofi_21) ≤ 63 then false else true) = 0 then (ofi_18 - ofi_21) else (63 : Int32))), (3, .int (ofi_18 - ofi_21)), (4, .long odg_17), (0, .ref h), (1, .int ra), (2, .int rb)]) hx hb dX3_divide_116 hl (by decide) rfl (fun ls hl => ?_)
        refine lv_iconst (v := 0) hx hb dX3_divide_118 (by decide) ?_
        refine lv_istore (lv' := [(9, .int 0), (7, .long 0), (6, .int (if bI (if (ofi_18 - ofi_21) ≤ 63 then false else true) = 0 then (ofi_18 - ofi_21) else (63 : Int32))), (3, .int (ofi_18 - ofi_21)), (4, .long odg_17), (0, .ref h), (1, .int ra), (2, .int rb)]) hx hb dX3_divide_119 hl (by decide) rfl (fun ls hl => ?_)
        have EXIT : ∀ (v1 : Int32) (v2 : Int64) (v3 : Int32), M_dvL odg_17 odg_20 (if bI (if (ofi_18 - ofi_21) ≤ 63 then false else true) = 0 then (ofi_18 - ofi_21) else (63 : Int32)) ((64 + (if bI (if (ofi_18 - ofi_21) ≤ 63 then false else true) = 0 then (ofi_18 - ofi_21) else (63 : Int32))).toInt.toNat + 1) 0 0 0 = (v1, v2, v3) → ∀ (H : Heap) (locs : List Loc) (ls : Array Slot), va_P D vwCl (cMd h q1 q2 cA cB cd ct tf ff td an v1 (if (ofi_18 - ofi_21) ≤ 63 then false else true) aT aF odg_20 ofi_21 lo) H → va_D A (cMd h q1 q2 cA cB cd ct tf ff td an v1 (if (ofi_18 - ofi_21) ≤ 63 then false else true) aT aF odg_20 ofi_21 lo) → va_S A s.heap H locs → lv_has ls 12 [(9, .int v3), (7, .long v2), (6, .int (if bI (if (ofi_18 - ofi_21) ≤ 63 then false else true) = 0 then (ofi_18 - ofi_21) else (63 : Int32))), (3, .int (ofi_18 - ofi_21)), (4, .long odg_17), (0, .ref h), (1, .int ra), (2, .int rb)] → W p l e (headSpec wsX3_divide ({ frames := 3, cells := 0, slots := 0, locals := 81 } : Room)).room s m ([.ref h, .int ra, .int rb]).toArray below meth c H locs 0 0 (MQ below (va_Qv (fun (_ : Unit) => True) (fun _ t => ∃ (w_td : Int32) (w_an : Bool) (w_qb : Int32) (w_pa : Bool) (w_aT : Int32) (w_aF : Int64) (w_dg : Int64) (w_fi : Int32) (w_lo : Bool), M_divide ct td dg fi lo (tf ra.toNatClampNeg) (ff ra.toNatClampNeg) (tf rb.toNatClampNeg) (ff rb.toNatClampNeg) = (w_td, w_an, w_qb, w_pa, w_aT, w_aF, w_dg, w_fi, w_lo) ∧ va_P D vwCl (cMd h q1 q2 cA cB cd ct tf ff w_td w_an w_qb w_pa w_aT w_aF w_dg w_fi w_lo) t.heap ∧ va_D A (cMd h q1 q2 cA cB cd ct tf ff w_td w_an w_qb w_pa w_aT w_aF w_dg w_fi w_lo)) A) ([.ref h, .int ra, .int rb]).toArray s 0 0 A) (F0 m 249 ls []) := by
          intro v1 v2 v3 e_26 H locs ls hP hD hS hl
          refine lv_aload_n hx hb dX3_divide_249 rfl (lv_at hl 5 rfl) ?_
          refine lv_aload_n hx hb dX3_divide_250 rfl (lv_at hl 5 rfl) ?_
          refine lv_iload_n hx hb dX3_divide_251 rfl (lv_at hl 6 rfl) ?_
          refine vp_callSi (va_cr (va_runV (As := [.int ra]) (rest := [.ref h]) ⟨hx, hb, hml, hown, hts⟩ (c_X3_minus l D h q1 q2 cA cB cd ct tf ff td an v1 (if (ofi_18 - ofi_21) ≤ 63 then false else true) aT aF odg_20 ofi_21 lo ra hra) (cwV 1 hts gX3_divide_X3_minus rfl rfl rfl kV_X3_minus ⟨Nat.le_of_ble_eq_true rfl, Nat.le_of_ble_eq_true rfl⟩) ⟨PB.blind, va_recv hK hP (ci := 2) (q0 := 0) rfl rfl, PB.pre hK hP⟩ rfl rfl hl.1 rfl (lv_room (Nat.le_of_ble_eq_true rfl)) dX3_divide_252 ⟨Nat.le_of_ble_eq_true rfl, Nat.le_of_ble_eq_true rfl⟩)) (fun r9 e9 => ?_)
          rw [e9]
          refine lv_lload hx hb dX3_divide_255 (lv_at hl 1 rfl) ?_
          refine lv_aload_n hx hb dX3_divide_257 rfl (lv_at hl 5 rfl) ?_
          refine va_get (v := .int ofi_21) (C := RX3) (T := TX3) (N := 13) hx hb hts in_X3 hown hK hP 0 rfl rfl 11 (by decide) w_6 (fun _ h9 => h9) rfl dX3_divide_258 ?_
          refine lv_iload_n hx hb dX3_divide_261 rfl (lv_at hl 3 rfl) ?_
          refine lv_iadd hx hb dX3_divide_262 ?_
          refine lv_iload hx hb dX3_divide_263 (lv_at hl 2 rfl) ?_
          refine lv_isub hx hb dX3_divide_265 ?_
          refine lv_bipush (v := 63) hx hb dX3_divide_266 (by decide) ?_
          refine lv_isub hx hb dX3_divide_268 ?_
          have hFc := va_free (wc := cMd h q1 q2 cA cB cd ct tf ff td an v1 (if (ofi_18 - ofi_21) ≤ 63 then false else true) aT aF odg_20 ofi_21 lo) hD hS hA [0, 1, 2] rfl
          refine va_callv (va_runV (As := [.int (bI (M_minus (tf ra.toNatClampNeg))), .long v2, .int (((ofi_21 + (ofi_18 - ofi_21)) - (if bI (if (ofi_18 - ofi_21) ≤ 63 then false else true) = 0 then (ofi_18 - ofi_21) else (63 : Int32))) - 63)]) (rest := []) ⟨hx, hb, hml, hown, hts⟩ (c_X3_make l D h q1 q2 cA cB cd ct tf ff td an v1 (if (ofi_18 - ofi_21) ≤ 63 then false else true) aT aF odg_20 ofi_21 lo (M_minus (tf ra.toNatClampNeg)) v2 (((ofi_21 + (ofi_18 - ofi_21)) - (if bI (if (ofi_18 - ofi_21) ≤ 63 then false else true) = 0 then (ofi_18 - ofi_21) else (63 : Int32))) - 63) H.size) (cwV 3 hts gX3_divide_X3_make rfl rfl rfl kV_X3_make ⟨Nat.le_of_ble_eq_true rfl, Nat.le_of_ble_eq_true rfl⟩) ⟨MMB.blind, va_recv hK hP (ci := 2) (q0 := 0) rfl rfl, MMB.pre hK hP hD⟩ rfl rfl hl.1 rfl (lv_room (Nat.le_of_ble_eq_true rfl)) dX3_divide_269 ⟨Nat.le_of_ble_eq_true rfl, Nat.le_of_ble_eq_true rfl⟩) hS (fun q _ h9 => hFc q h9) hFc (fun u9 t9 H locs ht hvm hw hB hz1 hk1 hS => ?_)
          obtain ⟨otd_27, oan_28, oaT_29, oaF_30, olo_31, e_32, hP, hD9⟩ := hB
          rw [ht] at hP
          have hD : va_D A (cMd h q1 q2 cA cB cd ct tf ff otd_27 oan_28 v1 (if (ofi_18 - ofi_21) ≤ 63 then false else true) oaT_29 oaF_30 odg_20 ofi_21 olo_31) := hD9.weaken (fun _ _ _ h => hFc _ h)
          have hw : M_divide ct td dg fi lo (tf ra.toNatClampNeg) (ff ra.toNatClampNeg) (tf rb.toNatClampNeg) (ff rb.toNatClampNeg) = (otd_27, oan_28, v1, (if (ofi_18 - ofi_21) ≤ 63 then false else true), oaT_29, oaF_30, odg_20, ofi_21, olo_31) := by unfold M_divide; rw [if_neg c_1, if_pos c_9, tup2_e e_19, tup2_e e_22, if_pos c_23, tup3_e e_26, tup5_e e_32]; try rfl
          exact W.vret hx hb hr (fun t9 ht hW => ⟨⟨(), rfl, trivial, ⟨otd_27, oan_28, v1, (if (ofi_18 - ofi_21) ≤ 63 then false else true), oaT_29, oaF_30, odg_20, ofi_21, olo_31, hw, by rw [ht]; exact hP, hD⟩⟩, hS.F ht⟩) hS.2.2 dX3_divide_272
        have LOOP : ∀ (n : Nat) (v1 : Int32) (v2 : Int64) (v3 : Int32), ((64 + (if bI (if (ofi_18 - ofi_21) ≤ 63 then false else true) = 0 then (ofi_18 - ofi_21) else (63 : Int32))).toInt - v3.toInt).toNat < n → M_dvL odg_17 odg_20 (if bI (if (ofi_18 - ofi_21) ≤ 63 then false else true) = 0 then (ofi_18 - ofi_21) else (63 : Int32)) n v1 v2 v3 = M_dvL odg_17 odg_20 (if bI (if (ofi_18 - ofi_21) ≤ 63 then false else true) = 0 then (ofi_18 - ofi_21) else (63 : Int32)) ((64 + (if bI (if (ofi_18 - ofi_21) ≤ 63 then false else true) = 0 then (ofi_18 - ofi_21) else (63 : Int32))).toInt.toNat + 1) 0 0 0 → ∀ (H : Heap) (locs : List Loc) (ls : Array Slot), va_P D vwCl (cMd h q1 q2 cA cB cd ct tf ff td an v1 (if (ofi_18 - ofi_21) ≤ 63 then false else true) aT aF odg_20 ofi_21 lo) H → va_D A (cMd h q1 q2 cA cB cd ct tf ff td an v1 (if (ofi_18 - ofi_21) ≤ 63 then false else true) aT aF odg_20 ofi_21 lo) → va_S A s.heap H locs → lv_has ls 12 [(9, .int v3), (7, .long v2), (6, .int (if bI (if (ofi_18 - ofi_21) ≤ 63 then false else true) = 0 then (ofi_18 - ofi_21) else (63 : Int32))), (3, .int (ofi_18 - ofi_21)), (4, .long odg_17), (0, .ref h), (1, .int ra), (2, .int rb)] → W p l e (headSpec wsX3_divide ({ frames := 3, cells := 0, slots := 0, locals := 81 } : Room)).room s m ([.ref h, .int ra, .int rb]).toArray below meth c H locs 0 0 (MQ below (va_Qv (fun (_ : Unit) => True) (fun _ t => ∃ (w_td : Int32) (w_an : Bool) (w_qb : Int32) (w_pa : Bool) (w_aT : Int32) (w_aF : Int64) (w_dg : Int64) (w_fi : Int32) (w_lo : Bool), M_divide ct td dg fi lo (tf ra.toNatClampNeg) (ff ra.toNatClampNeg) (tf rb.toNatClampNeg) (ff rb.toNatClampNeg) = (w_td, w_an, w_qb, w_pa, w_aT, w_aF, w_dg, w_fi, w_lo) ∧ va_P D vwCl (cMd h q1 q2 cA cB cd ct tf ff w_td w_an w_qb w_pa w_aT w_aF w_dg w_fi w_lo) t.heap ∧ va_D A (cMd h q1 q2 cA cB cd ct tf ff w_td w_an w_qb w_pa w_aT w_aF w_dg w_fi w_lo)) A) ([.ref h, .int ra, .int rb]).toArray s 0 0 A) (F0 m 121 ls []) := by
          intro n
          induction n with
          | zero => intro v1 v2 v3 hmu; exact absurd hmu (Nat.not_lt_zero _)
          | succ n ih =>
            intro v1 v2 v3 hmu hF H locs ls hP hD hS hl
            refine lv_iload hx hb dX3_divide_121 (lv_at hl 0 rfl) ?_
            refine lv_bipush (v := 64) hx hb dX3_divide_123 (by decide) ?_
            refine lv_iload hx hb dX3_divide_125 (lv_at hl 2 rfl) ?_
            refine lv_iadd hx hb dX3_divide_127 ?_
            refine lv_icmp_ge (tgt := 249) hx hb dX3_divide_128 (by decide) (fun c_33 => ?_) (fun c_33 => ?_)
            · rw [M_dvL_S odg_17 odg_20 (if bI (if (ofi_18 - ofi_21) ≤ 63 then false else true) = 0 then (ofi_18 - ofi_21) else (63 : Int32)) n v1 v2 v3] at hF; rw [if_pos c_33] at hF
              exact EXIT v1 v2 v3 hF.symm H locs ls hP hD hS (lv_sub hl [0, 1, 2, 3, 4, 5, 6, 7] rfl)
            · refine lv_lload hx hb dX3_divide_131 (lv_at hl 1 rfl) ?_
              refine lv_lconst (v := 0) hx hb dX3_divide_133 (by decide) ?_
              refine q_cut (v := bI (if v2 < 0 then true else false)) (pcJ := 143) (rest := []) (fun J => ?_) ?_
              · refine q_cl_ge (tgt := 142) hx hb dX3_divide_134 dX3_divide_135 (by decide) (fun c_34 => ?_) (fun c_34 => ?_)
                · refine lv_iconst (v := 0) hx hb dX3_divide_142 (by decide) ?_
                  exact J _ (by rw [if_neg c_34]; try rfl)
                · refine lv_iconst (v := 1) hx hb dX3_divide_138 (by decide) ?_
                  refine lv_goto (tgt := 143) hx hb dX3_divide_139 (by decide) ?_
                  exact J _ (by rw [if_pos c_34]; try rfl)
              refine lv_istore (lv' := [(10, .int (bI (if v2 < 0 then true else false))), (9, .int v3), (7, .long v2), (6, .int (if bI (if (ofi_18 - ofi_21) ≤ 63 then false else true) = 0 then (ofi_18 - ofi_21) else (63 : Int32))), (3, .int (ofi_18 - ofi_21)), (4, .long odg_17), (0, .ref h), (1, .int ra), (2, .int rb)]) hx hb dX3_divide_143 hl (by decide) rfl (fun ls hl => ?_)
              refine lv_ldc2 (v := 2) hx hb hown w_7 dX3_divide_145 ?_
              refine lv_lload hx hb dX3_divide_148 (lv_at hl 2 rfl) ?_
              refine lv_lmul hx hb dX3_divide_150 ?_
              refine lv_iload hx hb dX3_divide_151 (lv_at hl 1 rfl) ?_
              refine lv_bipush (v := 64) hx hb dX3_divide_153 (by decide) ?_
              refine q_cutL (v := (if 64 ≤ v3 then (0 : Int64) else (if (jlshl odg_17 v3) < 0 then (1 : Int64) else (0 : Int64)))) (pcJ := 173) (rest := [.long (2 * v2)]) (fun J => ?_) ?_
              · refine lv_icmp_ge (tgt := 172) hx hb dX3_divide_155 (by decide) (fun c_35 => ?_) (fun c_35 => ?_)
                · refine lv_lconst (v := 0) hx hb dX3_divide_172 (by decide) ?_
                  exact J _ (by rw [if_pos c_35]; try rfl)
                · refine lv_lload hx hb dX3_divide_158 (lv_at hl 5 rfl) ?_
                  refine lv_iload hx hb dX3_divide_160 (lv_at hl 1 rfl) ?_
                  refine lv_lshl (v := (jlshl odg_17 v3)) hx hb dX3_divide_162 rfl ?_
                  refine lv_lconst (v := 0) hx hb dX3_divide_163 (by decide) ?_
                  refine q_cl_ge (tgt := 172) hx hb dX3_divide_164 dX3_divide_165 (by decide) (fun c_36 => ?_) (fun c_36 => ?_)
                  · refine lv_lconst (v := 0) hx hb dX3_divide_172 (by decide) ?_
                    exact J _ (by rw [if_neg c_35, if_neg c_36]; try rfl)
                  · refine lv_lconst (v := 1) hx hb dX3_divide_168 (by decide) ?_
                    refine lv_goto (tgt := 173) hx hb dX3_divide_169 (by decide) ?_
                    exact J _ (by rw [if_neg c_35, if_pos c_36]; try rfl)
              refine lv_ladd hx hb dX3_divide_173 ?_
              refine lv_lstore (lv' := [(7, .long ((2 * v2) + (if 64 ≤ v3 then (0 : Int64) else (if (jlshl odg_17 v3) < 0 then (1 : Int64) else (0 : Int64))))), (10, .int (bI (if v2 < 0 then true else false))), (9, .int v3), (6, .int (if bI (if (ofi_18 - ofi_21) ≤ 63 then false else true) = 0 then (ofi_18 - ofi_21) else (63 : Int32))), (3, .int (ofi_18 - ofi_21)), (4, .long odg_17), (0, .ref h), (1, .int ra), (2, .int rb)]) hx hb dX3_divide_174 hl (by decide) rfl (fun ls hl => ?_)
              refine lv_iload hx hb dX3_divide_176 (lv_at hl 1 rfl) ?_
              refine q_cut (v := bI (if bI (if v2 < 0 then true else false) = 0 then (if bI (M_less ((2 * v2) + (if 64 ≤ v3 then (0 : Int64) else (if (jlshl odg_17 v3) < 0 then (1 : Int64) else (0 : Int64)))) odg_20) = 0 then true else false) else true)) (pcJ := 198) (rest := []) (fun J => ?_) ?_
              · refine lv_if_ne (tgt := 193) hx hb dX3_divide_178 (by decide) (fun c_37 => ?_) (fun c_37 => ?_)
                · refine lv_iconst (v := 1) hx hb dX3_divide_193 (by decide) ?_
                  refine lv_goto (tgt := 198) hx hb dX3_divide_194 (by decide) ?_
                  exact J _ (by rw [if_neg c_37]; try rfl)
                · refine lv_lload hx hb dX3_divide_181 (lv_at hl 0 rfl) ?_
                  refine lv_aload_n hx hb dX3_divide_183 rfl (lv_at hl 6 rfl) ?_
                  refine va_get (v := .long odg_20) (C := RX3) (T := TX3) (N := 13) hx hb hts in_X3 hown hK hP 0 rfl rfl 10 (by decide) w_5 (fun _ h9 => h9) rfl dX3_divide_184 ?_
                  refine vp_callSi (va_cr (va_runS (As := [.long ((2 * v2) + (if 64 ≤ v3 then (0 : Int64) else (if (jlshl odg_17 v3) < 0 then (1 : Int64) else (0 : Int64)))), .long odg_20]) (rest := []) ⟨hx, hb, hml, hown, hts⟩ (c_X3_lessSize l ((2 * v2) + (if 64 ≤ v3 then (0 : Int64) else (if (jlshl odg_17 v3) < 0 then (1 : Int64) else (0 : Int64)))) odg_20) (va_cwS 2 hts gX3_divide_X3_lessSize rfl rfl rfl kS_X3_lessSize ⟨Nat.le_of_ble_eq_true rfl, Nat.le_of_ble_eq_true rfl⟩) ⟨TB.blind, TB.pre⟩ rfl rfl hl.1 rfl (lv_room (Nat.le_of_ble_eq_true rfl)) dX3_divide_187 ⟨Nat.le_of_ble_eq_true rfl, Nat.le_of_ble_eq_true rfl⟩)) (fun r9 e9 => ?_)
                  rw [e9]
                  refine lv_if_ne (tgt := 197) hx hb dX3_divide_190 (by decide) (fun c_38 => ?_) (fun c_38 => ?_)
                  · refine lv_iconst (v := 0) hx hb dX3_divide_197 (by decide) ?_
                    exact J _ (by rw [if_pos c_37, if_neg c_38]; try rfl)
                  · refine lv_iconst (v := 1) hx hb dX3_divide_193 (by decide) ?_
                    refine lv_goto (tgt := 198) hx hb dX3_divide_194 (by decide) ?_
                    exact J _ (by rw [if_pos c_37, if_pos c_38]; try rfl)
              refine lv_istore (lv' := [(11, .int (bI (if bI (if v2 < 0 then true else false) = 0 then (if bI (M_less ((2 * v2) + (if 64 ≤ v3 then (0 : Int64) else (if (jlshl odg_17 v3) < 0 then (1 : Int64) else (0 : Int64)))) odg_20) = 0 then true else false) else true))), (7, .long ((2 * v2) + (if 64 ≤ v3 then (0 : Int64) else (if (jlshl odg_17 v3) < 0 then (1 : Int64) else (0 : Int64))))), (10, .int (bI (if v2 < 0 then true else false))), (9, .int v3), (6, .int (if bI (if (ofi_18 - ofi_21) ≤ 63 then false else true) = 0 then (ofi_18 - ofi_21) else (63 : Int32))), (3, .int (ofi_18 - ofi_21)), (4, .long odg_17), (0, .ref h), (1, .int ra), (2, .int rb)]) hx hb dX3_divide_198 hl (by decide) rfl (fun ls hl => ?_)
              refine lv_iload hx hb dX3_divide_200 (lv_at hl 0 rfl) ?_
              refine q_cutL (v := (if bI (if bI (if v2 < 0 then true else false) = 0 then (if bI (M_less ((2 * v2) + (if 64 ≤ v3 then (0 : Int64) else (if (jlshl odg_17 v3) < 0 then (1 : Int64) else (0 : Int64)))) odg_20) = 0 then true else false) else true) = 0 then ((2 * v2) + (if 64 ≤ v3 then (0 : Int64) else (if (jlshl odg_17 v3) < 0 then (1 : Int64) else (0 : Int64)))) else (((2 * v2) + (if 64 ≤ v3 then (0 : Int64) else (if (jlshl odg_17 v3) < 0 then (1 : Int64) else (0 : Int64)))) - odg_20))) (pcJ := 217) (rest := []) (fun J => ?_) ?_
              · refine lv_if_eq (tgt := 215) hx hb dX3_divide_202 (by decide) (fun c_39 => ?_) (fun c_39 => ?_)
                · refine lv_lload hx hb dX3_divide_215 (lv_at hl 1 rfl) ?_
                  exact J _ (by rw [if_pos c_39]; try rfl)
                · refine lv_lload hx hb dX3_divide_205 (lv_at hl 1 rfl) ?_
                  refine lv_aload_n hx hb dX3_divide_207 rfl (lv_at hl 7 rfl) ?_
                  refine va_get (v := .long odg_20) (C := RX3) (T := TX3) (N := 13) hx hb hts in_X3 hown hK hP 0 rfl rfl 10 (by decide) w_5 (fun _ h9 => h9) rfl dX3_divide_208 ?_
                  refine lv_lsub hx hb dX3_divide_211 ?_
                  refine lv_goto (tgt := 217) hx hb dX3_divide_212 (by decide) ?_
                  exact J _ (by rw [if_neg c_39]; try rfl)
              refine lv_lstore (lv' := [(7, .long (if bI (if bI (if v2 < 0 then true else false) = 0 then (if bI (M_less ((2 * v2) + (if 64 ≤ v3 then (0 : Int64) else (if (jlshl odg_17 v3) < 0 then (1 : Int64) else (0 : Int64)))) odg_20) = 0 then true else false) else true) = 0 then ((2 * v2) + (if 64 ≤ v3 then (0 : Int64) else (if (jlshl odg_17 v3) < 0 then (1 : Int64) else (0 : Int64)))) else (((2 * v2) + (if 64 ≤ v3 then (0 : Int64) else (if (jlshl odg_17 v3) < 0 then (1 : Int64) else (0 : Int64)))) - odg_20))), (11, .int (bI (if bI (if v2 < 0 then true else false) = 0 then (if bI (M_less ((2 * v2) + (if 64 ≤ v3 then (0 : Int64) else (if (jlshl odg_17 v3) < 0 then (1 : Int64) else (0 : Int64)))) odg_20) = 0 then true else false) else true))), (10, .int (bI (if v2 < 0 then true else false))), (9, .int v3), (6, .int (if bI (if (ofi_18 - ofi_21) ≤ 63 then false else true) = 0 then (ofi_18 - ofi_21) else (63 : Int32))), (3, .int (ofi_18 - ofi_21)), (4, .long odg_17), (0, .ref h), (1, .int ra), (2, .int rb)]) hx hb dX3_divide_217 hl (by decide) rfl (fun ls hl => ?_)
              refine lv_aload_n hx hb dX3_divide_219 rfl (lv_at hl 7 rfl) ?_
              refine lv_iconst (v := 2) hx hb dX3_divide_220 (by decide) ?_
              refine lv_aload_n hx hb dX3_divide_221 rfl (lv_at hl 7 rfl) ?_
              refine va_get (v := .int v1) (C := RX3) (T := TX3) (N := 13) hx hb hts in_X3 hown hK hP 0 rfl rfl 6 (by decide) w_1 (fun _ h9 => h9) rfl dX3_divide_222 ?_
              refine lv_imul hx hb dX3_divide_225 ?_
              refine lv_iload hx hb dX3_divide_226 (lv_at hl 1 rfl) ?_
              refine q_cut (v := bI (if bI (if bI (if v2 < 0 then true else false) = 0 then (if bI (M_less ((2 * v2) + (if 64 ≤ v3 then (0 : Int64) else (if (jlshl odg_17 v3) < 0 then (1 : Int64) else (0 : Int64)))) odg_20) = 0 then true else false) else true) = 0 then false else true)) (pcJ := 236) (rest := [.int (2 * v1), .ref h]) (fun J => ?_) ?_
              · refine lv_if_eq (tgt := 235) hx hb dX3_divide_228 (by decide) (fun c_40 => ?_) (fun c_40 => ?_)
                · refine lv_iconst (v := 0) hx hb dX3_divide_235 (by decide) ?_
                  exact J _ (by rw [if_pos c_40]; try rfl)
                · refine lv_iconst (v := 1) hx hb dX3_divide_231 (by decide) ?_
                  refine lv_goto (tgt := 236) hx hb dX3_divide_232 (by decide) ?_
                  exact J _ (by rw [if_neg c_40]; try rfl)
              refine lv_iadd hx hb dX3_divide_236 ?_
              refine lv_bipush (v := 8) hx hb dX3_divide_237 (by decide) ?_
              refine lv_irem hx hb dX3_divide_239 (by decide) ?_
              refine va_put (v := .int (((2 * v1) + (bI (if bI (if bI (if v2 < 0 then true else false) = 0 then (if bI (M_less ((2 * v2) + (if 64 ≤ v3 then (0 : Int64) else (if (jlshl odg_17 v3) < 0 then (1 : Int64) else (0 : Int64)))) odg_20) = 0 then true else false) else true) = 0 then false else true))) - ((2 * v1) + (bI (if bI (if bI (if v2 < 0 then true else false) = 0 then (if bI (M_less ((2 * v2) + (if 64 ≤ v3 then (0 : Int64) else (if (jlshl odg_17 v3) < 0 then (1 : Int64) else (0 : Int64)))) odg_20) = 0 then true else false) else true) = 0 then false else true))) / 8 * 8)) (ty := .int) (C := RX3) (T := TX3) (N := 13) hx hb hts in_X3 tyX3 tyX3_ok nmX3 hown hK hP hD hS 0 rfl rfl 6 (by decide) w_1 (fun _ h9 => h9) rfl (tyX3_ok 6 (by decide)) rfl rfl (Nat.le_of_ble_eq_true rfl) dX3_divide_240 (fun H locs hP hD hS => ?_)
              have hP : va_P D vwCl (cMd h q1 q2 cA cB cd ct tf ff td an (((2 * v1) + (bI (if bI (if bI (if v2 < 0 then true else false) = 0 then (if bI (M_less ((2 * v2) + (if 64 ≤ v3 then (0 : Int64) else (if (jlshl odg_17 v3) < 0 then (1 : Int64) else (0 : Int64)))) odg_20) = 0 then true else false) else true) = 0 then false else true))) - ((2 * v1) + (bI (if bI (if bI (if v2 < 0 then true else false) = 0 then (if bI (M_less ((2 * v2) + (if 64 ≤ v3 then (0 : Int64) else (if (jlshl odg_17 v3) < 0 then (1 : Int64) else (0 : Int64)))) odg_20) = 0 then true else false) else true) = 0 then false else true))) / 8 * 8) (if (ofi_18 - ofi_21) ≤ 63 then false else true) aT aF odg_20 ofi_21 lo) H := hP
              have hD : va_D A (cMd h q1 q2 cA cB cd ct tf ff td an (((2 * v1) + (bI (if bI (if bI (if v2 < 0 then true else false) = 0 then (if bI (M_less ((2 * v2) + (if 64 ≤ v3 then (0 : Int64) else (if (jlshl odg_17 v3) < 0 then (1 : Int64) else (0 : Int64)))) odg_20) = 0 then true else false) else true) = 0 then false else true))) - ((2 * v1) + (bI (if bI (if bI (if v2 < 0 then true else false) = 0 then (if bI (M_less ((2 * v2) + (if 64 ≤ v3 then (0 : Int64) else (if (jlshl odg_17 v3) < 0 then (1 : Int64) else (0 : Int64)))) odg_20) = 0 then true else false) else true) = 0 then false else true))) / 8 * 8) (if (ofi_18 - ofi_21) ≤ 63 then false else true) aT aF odg_20 ofi_21 lo) := hD
              refine lv_iinc (v := (v3 + 1)) (lv' := [(9, .int (v3 + 1)), (7, .long (if bI (if bI (if v2 < 0 then true else false) = 0 then (if bI (M_less ((2 * v2) + (if 64 ≤ v3 then (0 : Int64) else (if (jlshl odg_17 v3) < 0 then (1 : Int64) else (0 : Int64)))) odg_20) = 0 then true else false) else true) = 0 then ((2 * v2) + (if 64 ≤ v3 then (0 : Int64) else (if (jlshl odg_17 v3) < 0 then (1 : Int64) else (0 : Int64)))) else (((2 * v2) + (if 64 ≤ v3 then (0 : Int64) else (if (jlshl odg_17 v3) < 0 then (1 : Int64) else (0 : Int64)))) - odg_20))), (11, .int (bI (if bI (if v2 < 0 then true else false) = 0 then (if bI (M_less ((2 * v2) + (if 64 ≤ v3 then (0 : Int64) else (if (jlshl odg_17 v3) < 0 then (1 : Int64) else (0 : Int64)))) odg_20) = 0 then true else false) else true))), (10, .int (bI (if v2 < 0 then true else false))), (6, .int (if bI (if (ofi_18 - ofi_21) ≤ 63 then false else true) = 0 then (ofi_18 - ofi_21) else (63 : Int32))), (3, .int (ofi_18 - ofi_21)), (4, .long odg_17), (0, .ref h), (1, .int ra), (2, .int rb)]) hx hb dX3_divide_243 hl (k := 3) rfl rfl (by decide) rfl (fun ls hl => ?_)
              refine lv_goto (tgt := 121) hx hb dX3_divide_246 (by decide) ?_
              exact ih (((2 * v1) + (bI (if bI (if bI (if v2 < 0 then true else false) = 0 then (if bI (M_less ((2 * v2) + (if 64 ≤ v3 then (0 : Int64) else (if (jlshl odg_17 v3) < 0 then (1 : Int64) else (0 : Int64)))) odg_20) = 0 then true else false) else true) = 0 then false else true))) - ((2 * v1) + (bI (if bI (if bI (if v2 < 0 then true else false) = 0 then (if bI (M_less ((2 * v2) + (if 64 ≤ v3 then (0 : Int64) else (if (jlshl odg_17 v3) < 0 then (1 : Int64) else (0 : Int64)))) odg_20) = 0 then true else false) else true) = 0 then false else true))) / 8 * 8) (if bI (if bI (if v2 < 0 then true else false) = 0 then (if bI (M_less ((2 * v2) + (if 64 ≤ v3 then (0 : Int64) else (if (jlshl odg_17 v3) < 0 then (1 : Int64) else (0 : Int64)))) odg_20) = 0 then true else false) else true) = 0 then ((2 * v2) + (if 64 ≤ v3 then (0 : Int64) else (if (jlshl odg_17 v3) < 0 then (1 : Int64) else (0 : Int64)))) else (((2 * v2) + (if 64 ≤ v3 then (0 : Int64) else (if (jlshl odg_17 v3) < 0 then (1 : Int64) else (0 : Int64)))) - odg_20)) (v3 + 1) (mu_go (mu_inc c_33) hmu) (by rw [← hF, M_dvL_S odg_17 odg_20 (if bI (if (ofi_18 - ofi_21) ≤ 63 then false else true) = 0 then (ofi_18 - ofi_21) else (63 : Int32)) n v1 v2 v3, if_neg c_33]) H locs ls hP hD hS (lv_sub hl [0, 1, 4, 5, 6, 7, 8, 9] rfl)
        exact LOOP ((64 + (if bI (if (ofi_18 - ofi_21) ≤ 63 then false else true) = 0 then (ofi_18 - ofi_21) else (63 : Int32))).toInt.toNat + 1) 0 0 0 (mu_0 _) rfl H _ ls hP hD hS (lv_sub hl [0, 1, 2, 3, 4, 5, 6, 7] rfl)
      · refine lv_aload_n hx hb dX3_divide_64 rfl (lv_at hl 2 rfl) ?_
        refine lv_aload_n hx hb dX3_divide_65 rfl (lv_at hl 2 rfl) ?_
        refine lv_iload_n hx hb dX3_divide_66 rfl (lv_at hl 3 rfl) ?_
        refine vp_callSi (va_cr (va_runV (As := [.int ra]) (rest := [.ref h]) ⟨hx, hb, hml, hown, hts⟩ (c_X3_minus l D h q1 q2 cA cB cd ct tf ff td an 0 false aT aF odg_20 ofi_21 lo ra hra) (cwV 1 hts gX3_divide_X3_minus rfl rfl rfl kV_X3_minus ⟨Nat.le_of_ble_eq_true rfl, Nat.le_of_ble_eq_true rfl⟩) ⟨PB.blind, va_recv hK hP (ci := 2) (q0 := 0) rfl rfl, PB.pre hK hP⟩ rfl rfl hl.1 rfl (lv_room (Nat.le_of_ble_eq_true rfl)) dX3_divide_67 ⟨Nat.le_of_ble_eq_true rfl, Nat.le_of_ble_eq_true rfl⟩)) (fun r9 e9 => ?_)
        rw [e9]
        refine lv_aload_n hx hb dX3_divide_70 rfl (lv_at hl 2 rfl) ?_
        refine va_get (v := .ref q2) (C := RX3) (T := TX3) (N := 13) hx hb hts in_X3 hown hK hP 0 rfl rfl 3 (by decide) w_4 (fun _ h9 => h9) rfl dX3_divide_71 ?_
        refine lv_iload_n hx hb dX3_divide_74 rfl (lv_at hl 3 rfl) ?_
        refine va_lald hx hb hK hP 2 1 rfl rfl hra dX3_divide_75 ?_
        refine lv_aload_n hx hb dX3_divide_76 rfl (lv_at hl 2 rfl) ?_
        refine lv_iload_n hx hb dX3_divide_77 rfl (lv_at hl 3 rfl) ?_
        refine vp_callSi (va_cr (va_runV (As := [.int ra]) (rest := [.long (ff ra.toNatClampNeg), .int (bI (M_minus (tf ra.toNatClampNeg))), .ref h]) ⟨hx, hb, hml, hown, hts⟩ (c_X3_unit l D h q1 q2 cA cB cd ct tf ff td an 0 false aT aF odg_20 ofi_21 lo ra hra) (cwV 1 hts gX3_divide_X3_unit rfl rfl rfl kV_X3_unit ⟨Nat.le_of_ble_eq_true rfl, Nat.le_of_ble_eq_true rfl⟩) ⟨PB.blind, va_recv hK hP (ci := 2) (q0 := 0) rfl rfl, PB.pre hK hP⟩ rfl rfl hl.1 rfl (lv_room (Nat.le_of_ble_eq_true rfl)) dX3_divide_78 ⟨Nat.le_of_ble_eq_true rfl, Nat.le_of_ble_eq_true rfl⟩)) (fun r9 e9 => ?_)
        rw [e9]
        have hFc := va_free (wc := cMd h q1 q2 cA cB cd ct tf ff td an 0 false aT aF odg_20 ofi_21 lo) hD hS hA [0, 1, 2] rfl
        refine va_callv (va_runV (As := [.int (bI (M_minus (tf ra.toNatClampNeg))), .long (ff ra.toNatClampNeg), .int (M_unit (tf ra.toNatClampNeg))]) (rest := []) ⟨hx, hb, hml, hown, hts⟩ (c_X3_make l D h q1 q2 cA cB cd ct tf ff td an 0 false aT aF odg_20 ofi_21 lo (M_minus (tf ra.toNatClampNeg)) (ff ra.toNatClampNeg) (M_unit (tf ra.toNatClampNeg)) H.size) (cwV 3 hts gX3_divide_X3_make rfl rfl rfl kV_X3_make ⟨Nat.le_of_ble_eq_true rfl, Nat.le_of_ble_eq_true rfl⟩) ⟨MMB.blind, va_recv hK hP (ci := 2) (q0 := 0) rfl rfl, MMB.pre hK hP hD⟩ rfl rfl hl.1 rfl (lv_room (Nat.le_of_ble_eq_true rfl)) dX3_divide_81 ⟨Nat.le_of_ble_eq_true rfl, Nat.le_of_ble_eq_true rfl⟩) hS (fun q _ h9 => hFc q h9) hFc (fun u9 t9 H locs ht hvm hw hB hz1 hk1 hS => ?_)
        obtain ⟨otd_41, oan_42, oaT_43, oaF_44, olo_45, e_46, hP, hD9⟩ := hB
        rw [ht] at hP
        have hD : va_D A (cMd h q1 q2 cA cB cd ct tf ff otd_41 oan_42 0 false oaT_43 oaF_44 odg_20 ofi_21 olo_45) := hD9.weaken (fun _ _ _ h => hFc _ h)
        have hw : M_divide ct td dg fi lo (tf ra.toNatClampNeg) (ff ra.toNatClampNeg) (tf rb.toNatClampNeg) (ff rb.toNatClampNeg) = (otd_41, oan_42, 0, false, oaT_43, oaF_44, odg_20, ofi_21, olo_45) := by unfold M_divide; rw [if_neg c_1, if_pos c_9, tup2_e e_19, tup2_e e_22, if_neg c_23, tup5_e e_46]; try rfl
        exact W.vret hx hb hr (fun t9 ht hW => ⟨⟨(), rfl, trivial, ⟨otd_41, oan_42, 0, false, oaT_43, oaF_44, odg_20, ofi_21, olo_45, hw, by rw [ht]; exact hP, hD⟩⟩, hS.F ht⟩) hS.2.2 dX3_divide_84
def M_remainder (tf : Nat → Int32) (ff : Nat → Int64) (ct : Int32) (td : Int32) (an : Bool) (qb : Int32) (pa : Bool) (aT : Int32) (aF : Int64) (dg : Int64) (fi : Int32) (lo : Bool) (ra : Int32) (rb : Int32) (rc : Int32) : Int32 × Int32 × (Nat → Int32) × (Nat → Int64) × Int32 × Bool × Int32 × Bool × Int32 × Int64 × Int64 × Int32 × Bool :=
  if bI (M_none ra) = 0 then (if bI (M_none rb) = 0 then (if bI (M_none rc) = 0 then (tup2 (M_begin) (fun otd_7 oan_8 =>
          tup5 ((M_goesOn ct otd_7 oan_8 aT aF (tf ra.toNatClampNeg) (ff ra.toNatClampNeg) rb (tf rb.toNatClampNeg) (ff rb.toNatClampNeg) (if (M_kind (tf ra.toNatClampNeg) (ff ra.toNatClampNeg)) = 4 then false else (if bI (M_nothing (tf rb.toNatClampNeg) (ff rb.toNatClampNeg)) = 0 then (if (M_kind (tf rb.toNatClampNeg) (ff rb.toNatClampNeg)) = 2 then false else true) else false)))) (fun v_13 otd_14 oan_15 oaT_16 oaF_17 =>
            if bI v_13 = 0 then (tup2 ((M_keep tf ff oan_15 oaT_16 oaF_17 rc)) (fun otf_20 off_21 =>
                (otd_14, 0, otf_20, off_21, otd_14, oan_15, qb, pa, oaT_16, oaF_17, dg, fi, lo)))
            else (tup9 ((M_divide ct otd_14 dg fi lo (tf ra.toNatClampNeg) (ff ra.toNatClampNeg) (tf rb.toNatClampNeg) (ff rb.toNatClampNeg))) (fun otd_23 oan_24 oqb_25 opa_26 oaT_27 oaF_28 odg_29 ofi_30 olo_31 =>
                tup2 ((M_keep tf ff oan_24 oaT_27 oaF_28 rc)) (fun otf_33 off_34 =>
                  (otd_23, 0, otf_33, off_34, otd_23, oan_24, oqb_25, opa_26, oaT_27, oaF_28, odg_29, ofi_30, olo_31)))))))
      else (0, 1, tf, ff, td, an, qb, pa, aT, aF, dg, fi, lo))
    else (0, 1, tf, ff, td, an, qb, pa, aT, aF, dg, fi, lo))
  else (0, 1, tf, ff, td, an, qb, pa, aT, aF, dg, fi, lo)
theorem kS_X3_remainder : yX3_remainder.cls ≠ "java/lang/invoke/MethodHandle" ∧ yX3_remainder.cls ≠ "java/lang/invoke/VarHandle" ∧ (parseMethodDescriptor yX3_remainder.desc).map (fun d => d.parameters.length) = some 3 := by decide +kernel
theorem kV_X3_remainder : yX3_remainder.cls = RX3 ∧ yX3_remainder.cls ≠ "java/lang/invoke/MethodHandle" ∧ yX3_remainder.cls ≠ "java/lang/invoke/VarHandle" ∧ (parseMethodDescriptor yX3_remainder.desc).map (fun d => d.parameters.length) = some 3 := ⟨rfl, kS_X3_remainder⟩
set_option maxHeartbeats 4000000 in
set_option maxRecDepth 100000 in
theorem c_X3_remainder (l : Launch) (D : va_G) (h : Nat) (q1 : Nat) (q2 : Nat) (cA : ClassId) (cB : ClassId) (cd : Int32) (ct : Int32) (tf : Nat → Int32) (ff : Nat → Int64) (td : Int32) (an : Bool) (qb : Int32) (pa : Bool) (aT : Int32) (aF : Int64) (dg : Int64) (fi : Int32) (lo : Bool) (ra : Int32) (rb : Int32) (rc : Int32) (sz : Nat) : Met l yX3_remainder wsX3_remainder ({ frames := 4, cells := 0, slots := 0, locals := 112 } : Room) (va_Pc [.ref h, .int ra, .int rb, .int rc] (MMB D (tRS cA cB) (cMd h q1 q2 cA cB cd ct tf ff td an qb pa aT aF dg fi lo) sz)) (va_Qi (fun (r u : Int32) => r = u) (fun u t => ∃ (w_cd : Int32) (w_tf : Nat → Int32) (w_ff : Nat → Int64) (w_td : Int32) (w_an : Bool) (w_qb : Int32) (w_pa : Bool) (w_aT : Int32) (w_aF : Int64) (w_dg : Int64) (w_fi : Int32) (w_lo : Bool), M_remainder tf ff ct td an qb pa aT aF dg fi lo ra rb rc = (u, w_cd, w_tf, w_ff, w_td, w_an, w_qb, w_pa, w_aT, w_aF, w_dg, w_fi, w_lo) ∧ va_P D vwCl (cMd h q1 q2 cA cB w_cd ct w_tf w_ff w_td w_an w_qb w_pa w_aT w_aF w_dg w_fi w_lo) t.heap ∧ va_D (va_A (cMd h q1 q2 cA cB cd ct tf ff td an qb pa aT aF dg fi lo) sz) (cMd h q1 q2 cA cB w_cd ct w_tf w_ff w_td w_an w_qb w_pa w_aT w_aF w_dg w_fi w_lo)) (va_A (cMd h q1 q2 cA cB cd ct tf ff td an qb pa aT aF dg fi lo) sz)) 0 0 (va_A (cMd h q1 q2 cA cB cd ct tf ff td an qb pa aT aF dg fi lo) sz) := by
  refine Met.ofW (cc := cX3_remainder) (maxL := 4) (ret := (some .int)) (by decide) rfl ?_
  intro p e s m args below meth c s₁ B hml hv
  obtain ⟨rfl, hsz, hP, hK, hD0⟩ := hv
  have hx := B.exec
  have hb := B.bytes
  have hr := B.returns
  have hts := atoms_spec (ws := wsX3_remainder) B.pre
  have hown : s.vm.findClass RX3 = some m.cls := findClass_of_methodNamed B.named
  have hlocks := B.notSynchronized
  have w_1 := hts (.fieldLink RX3 21 "RealStepsModel" "code" "I") (by decide +kernel)
  have in_X3 : ∀ w ∈ wsX30, w ∈ wsX3_remainder := by decide +kernel
  have w_3 := hts (.fieldLink RX3 72 "RealStepsModel" "told" "I") (by decide +kernel)
  subst hsz
  have hD := hD0.self (sz := s.heap.size)
  generalize hAe : va_A (cMd h q1 q2 cA cB cd ct tf ff td an qb pa aT aF dg fi lo) s.heap.size = A at hD ⊢
  have hA : ∀ q : Nat, s.heap.size ≤ q → A q := fun q h => by rw [← hAe]; exact Or.inr h
  have hS : va_S A s.heap s.heap [] := va_S.rf
  have hP : va_P D vwCl (cMd h q1 q2 cA cB cd ct tf ff td an qb pa aT aF dg fi lo) s.heap := hP
  have hl := lv_entry ([.ref h, .int ra, .int rb, .int rc]) (n := 4) (Nat.le_of_ble_eq_true rfl)
  rw [lg_entry_eq]
  generalize (lg_sl ([.ref h, .int ra, .int rb, .int rc]) ++ List.replicate (4 - (lg_sl ([.ref h, .int ra, .int rb, .int rc])).length) Slot.unset).toArray = ls at hl ⊢
  have hl : lv_has ls 4 [(0, .ref h), (1, .int ra), (2, .int rb), (3, .int rc)] := hl
  refine lv_aload_n hx hb dX3_remainder_0 rfl (lv_at hl 0 rfl) ?_
  refine lv_iload_n hx hb dX3_remainder_1 rfl (lv_at hl 1 rfl) ?_
  refine vp_callSi (va_cr (va_runS (As := [.int ra]) (rest := [.ref h]) ⟨hx, hb, hml, hown, hts⟩ (c_X3_none l ra) (va_cwS 1 hts gX3_remainder_X3_none rfl rfl rfl kS_X3_none ⟨Nat.le_of_ble_eq_true rfl, Nat.le_of_ble_eq_true rfl⟩) ⟨TB.blind, TB.pre⟩ rfl rfl hl.1 rfl (lv_room (Nat.le_of_ble_eq_true rfl)) dX3_remainder_2 ⟨Nat.le_of_ble_eq_true rfl, Nat.le_of_ble_eq_true rfl⟩)) (fun r9 e9 => ?_)
  rw [e9]
  refine lv_if_ne (tgt := 22) hx hb dX3_remainder_5 (by decide) (fun c_1 => ?_) (fun c_1 => ?_)
  · refine lv_iconst (v := 1) hx hb dX3_remainder_22 (by decide) ?_
    refine lv_goto (tgt := 27) hx hb dX3_remainder_23 (by decide) ?_
    refine va_put (v := .int 1) (ty := .int) (C := RX3) (T := TX3) (N := 13) hx hb hts in_X3 tyX3 tyX3_ok nmX3 hown hK hP hD hS 0 rfl rfl 0 (by decide) w_1 (fun _ h9 => h9) rfl (tyX3_ok 0 (by decide)) rfl rfl (Nat.le_of_ble_eq_true rfl) dX3_remainder_27 (fun H locs hP hD hS => ?_)
    have hP : va_P D vwCl (cMd h q1 q2 cA cB 1 ct tf ff td an qb pa aT aF dg fi lo) H := hP
    have hD : va_D A (cMd h q1 q2 cA cB 1 ct tf ff td an qb pa aT aF dg fi lo) := hD
    refine lv_aload_n hx hb dX3_remainder_30 rfl (lv_at hl 0 rfl) ?_
    refine va_get (v := .int 1) (C := RX3) (T := TX3) (N := 13) hx hb hts in_X3 hown hK hP 0 rfl rfl 0 (by decide) w_1 (fun _ h9 => h9) rfl dX3_remainder_31 ?_
    refine lv_if_le (tgt := 39) hx hb dX3_remainder_34 (by decide) (fun c_2 => ?_) (fun c_2 => ?_)
    · exact absurd c_2 (by decide)
    · refine lv_iconst (v := 0) hx hb dX3_remainder_37 (by decide) ?_
      have hw : M_remainder tf ff ct td an qb pa aT aF dg fi lo ra rb rc = (0, 1, tf, ff, td, an, qb, pa, aT, aF, dg, fi, lo) := by unfold M_remainder; rw [if_neg c_1]; try rfl
      exact W.iret hx hb hr (fun t9 ht hW => ⟨⟨_, 0, rfl, rfl, ⟨1, tf, ff, td, an, qb, pa, aT, aF, dg, fi, lo, hw, by rw [ht]; exact hP, hD⟩⟩, hS.F ht⟩) hS.2.2 dX3_remainder_38
  · refine lv_iload_n hx hb dX3_remainder_8 rfl (lv_at hl 2 rfl) ?_
    refine vp_callSi (va_cr (va_runS (As := [.int rb]) (rest := [.ref h]) ⟨hx, hb, hml, hown, hts⟩ (c_X3_none l rb) (va_cwS 1 hts gX3_remainder_X3_none rfl rfl rfl kS_X3_none ⟨Nat.le_of_ble_eq_true rfl, Nat.le_of_ble_eq_true rfl⟩) ⟨TB.blind, TB.pre⟩ rfl rfl hl.1 rfl (lv_room (Nat.le_of_ble_eq_true rfl)) dX3_remainder_9 ⟨Nat.le_of_ble_eq_true rfl, Nat.le_of_ble_eq_true rfl⟩)) (fun r9 e9 => ?_)
    rw [e9]
    refine lv_if_ne (tgt := 22) hx hb dX3_remainder_12 (by decide) (fun c_3 => ?_) (fun c_3 => ?_)
    · refine lv_iconst (v := 1) hx hb dX3_remainder_22 (by decide) ?_
      refine lv_goto (tgt := 27) hx hb dX3_remainder_23 (by decide) ?_
      refine va_put (v := .int 1) (ty := .int) (C := RX3) (T := TX3) (N := 13) hx hb hts in_X3 tyX3 tyX3_ok nmX3 hown hK hP hD hS 0 rfl rfl 0 (by decide) w_1 (fun _ h9 => h9) rfl (tyX3_ok 0 (by decide)) rfl rfl (Nat.le_of_ble_eq_true rfl) dX3_remainder_27 (fun H locs hP hD hS => ?_)
      have hP : va_P D vwCl (cMd h q1 q2 cA cB 1 ct tf ff td an qb pa aT aF dg fi lo) H := hP
      have hD : va_D A (cMd h q1 q2 cA cB 1 ct tf ff td an qb pa aT aF dg fi lo) := hD
      refine lv_aload_n hx hb dX3_remainder_30 rfl (lv_at hl 0 rfl) ?_
      refine va_get (v := .int 1) (C := RX3) (T := TX3) (N := 13) hx hb hts in_X3 hown hK hP 0 rfl rfl 0 (by decide) w_1 (fun _ h9 => h9) rfl dX3_remainder_31 ?_
      refine lv_if_le (tgt := 39) hx hb dX3_remainder_34 (by decide) (fun c_4 => ?_) (fun c_4 => ?_)
      · exact absurd c_4 (by decide)
      · refine lv_iconst (v := 0) hx hb dX3_remainder_37 (by decide) ?_
        have hw : M_remainder tf ff ct td an qb pa aT aF dg fi lo ra rb rc = (0, 1, tf, ff, td, an, qb, pa, aT, aF, dg, fi, lo) := by unfold M_remainder; rw [if_pos c_1, if_neg c_3]; try rfl
        exact W.iret hx hb hr (fun t9 ht hW => ⟨⟨_, 0, rfl, rfl, ⟨1, tf, ff, td, an, qb, pa, aT, aF, dg, fi, lo, hw, by rw [ht]; exact hP, hD⟩⟩, hS.F ht⟩) hS.2.2 dX3_remainder_38
    · refine lv_iload_n hx hb dX3_remainder_15 rfl (lv_at hl 3 rfl) ?_
      refine vp_callSi (va_cr (va_runS (As := [.int rc]) (rest := [.ref h]) ⟨hx, hb, hml, hown, hts⟩ (c_X3_none l rc) (va_cwS 1 hts gX3_remainder_X3_none rfl rfl rfl kS_X3_none ⟨Nat.le_of_ble_eq_true rfl, Nat.le_of_ble_eq_true rfl⟩) ⟨TB.blind, TB.pre⟩ rfl rfl hl.1 rfl (lv_room (Nat.le_of_ble_eq_true rfl)) dX3_remainder_16 ⟨Nat.le_of_ble_eq_true rfl, Nat.le_of_ble_eq_true rfl⟩)) (fun r9 e9 => ?_)
      rw [e9]
      refine lv_if_eq (tgt := 26) hx hb dX3_remainder_19 (by decide) (fun c_5 => ?_) (fun c_5 => ?_)
      · refine lv_iconst (v := 0) hx hb dX3_remainder_26 (by decide) ?_
        refine va_put (v := .int 0) (ty := .int) (C := RX3) (T := TX3) (N := 13) hx hb hts in_X3 tyX3 tyX3_ok nmX3 hown hK hP hD hS 0 rfl rfl 0 (by decide) w_1 (fun _ h9 => h9) rfl (tyX3_ok 0 (by decide)) rfl rfl (Nat.le_of_ble_eq_true rfl) dX3_remainder_27 (fun H locs hP hD hS => ?_)
        have hP : va_P D vwCl (cMd h q1 q2 cA cB 0 ct tf ff td an qb pa aT aF dg fi lo) H := hP
        have hD : va_D A (cMd h q1 q2 cA cB 0 ct tf ff td an qb pa aT aF dg fi lo) := hD
        refine lv_aload_n hx hb dX3_remainder_30 rfl (lv_at hl 0 rfl) ?_
        refine va_get (v := .int 0) (C := RX3) (T := TX3) (N := 13) hx hb hts in_X3 hown hK hP 0 rfl rfl 0 (by decide) w_1 (fun _ h9 => h9) rfl dX3_remainder_31 ?_
        refine lv_if_le (tgt := 39) hx hb dX3_remainder_34 (by decide) (fun c_6 => ?_) (fun c_6 => ?_)
        · refine lv_aload_n hx hb dX3_remainder_39 rfl (lv_at hl 0 rfl) ?_
          have hFc := va_free (wc := cMd h q1 q2 cA cB 0 ct tf ff td an qb pa aT aF dg fi lo) hD hS hA [0, 1, 2] rfl
          refine va_callv (va_runV (As := []) (rest := []) ⟨hx, hb, hml, hown, hts⟩ (c_X3_begin l D h q1 q2 cA cB 0 ct tf ff td an qb pa aT aF dg fi lo H.size) (cwV 0 hts gX3_remainder_X3_begin rfl rfl rfl kV_X3_begin ⟨Nat.le_of_ble_eq_true rfl, Nat.le_of_ble_eq_true rfl⟩) ⟨MMB.blind, va_recv hK hP (ci := 2) (q0 := 0) rfl rfl, MMB.pre hK hP hD⟩ rfl rfl hl.1 rfl (lv_room (Nat.le_of_ble_eq_true rfl)) dX3_remainder_40 ⟨Nat.le_of_ble_eq_true rfl, Nat.le_of_ble_eq_true rfl⟩) hS (fun q _ h9 => hFc q h9) hFc (fun u9 t9 H locs ht hvm hw hB hz1 hk1 hS => ?_)
          obtain ⟨otd_7, oan_8, e_9, hP, hD9⟩ := hB
          rw [ht] at hP
          have hD : va_D A (cMd h q1 q2 cA cB 0 ct tf ff otd_7 oan_8 qb pa aT aF dg fi lo) := hD9.weaken (fun _ _ _ h => hFc _ h)
          refine lv_aload_n hx hb dX3_remainder_43 rfl (lv_at hl 0 rfl) ?_
          refine lv_iload_n hx hb dX3_remainder_44 rfl (lv_at hl 1 rfl) ?_
          refine lv_iload_n hx hb dX3_remainder_45 rfl (lv_at hl 2 rfl) ?_
          refine lv_aload_n hx hb dX3_remainder_46 rfl (lv_at hl 0 rfl) ?_
          refine lv_iload_n hx hb dX3_remainder_47 rfl (lv_at hl 1 rfl) ?_
          refine vp_callSi (va_cr (va_runV (As := [.int ra]) (rest := [.int rb, .int ra, .ref h]) ⟨hx, hb, hml, hown, hts⟩ (c_X3_kind l D h q1 q2 cA cB 0 ct tf ff otd_7 oan_8 qb pa aT aF dg fi lo ra (M_none_in c_1)) (cwV 1 hts gX3_remainder_X3_kind rfl rfl rfl kV_X3_kind ⟨Nat.le_of_ble_eq_true rfl, Nat.le_of_ble_eq_true rfl⟩) ⟨PB.blind, va_recv hK hP (ci := 2) (q0 := 0) rfl rfl, PB.pre hK hP⟩ rfl rfl hl.1 rfl (lv_room (Nat.le_of_ble_eq_true rfl)) dX3_remainder_48 ⟨Nat.le_of_ble_eq_true rfl, Nat.le_of_ble_eq_true rfl⟩)) (fun r9 e9 => ?_)
          rw [e9]
          refine lv_iconst (v := 4) hx hb dX3_remainder_51 (by decide) ?_
          refine q_cut (v := bI (if (M_kind (tf ra.toNatClampNeg) (ff ra.toNatClampNeg)) = 4 then false else (if bI (M_nothing (tf rb.toNatClampNeg) (ff rb.toNatClampNeg)) = 0 then (if (M_kind (tf rb.toNatClampNeg) (ff rb.toNatClampNeg)) = 2 then false else true) else false))) (pcJ := 77) (rest := [.int rb, .int ra, .ref h]) (fun J => ?_) ?_
          · refine lv_icmp_eq (tgt := 76) hx hb dX3_remainder_52 (by decide) (fun c_10 => ?_) (fun c_10 => ?_)
            · refine lv_iconst (v := 0) hx hb dX3_remainder_76 (by decide) ?_
              exact J _ (by rw [if_pos c_10]; try rfl)
            · refine lv_aload_n hx hb dX3_remainder_55 rfl (lv_at hl 0 rfl) ?_
              refine lv_iload_n hx hb dX3_remainder_56 rfl (lv_at hl 2 rfl) ?_
              refine vp_callSi (va_cr (va_runV (As := [.int rb]) (rest := [.int rb, .int ra, .ref h]) ⟨hx, hb, hml, hown, hts⟩ (c_X3_nothing l D h q1 q2 cA cB 0 ct tf ff otd_7 oan_8 qb pa aT aF dg fi lo rb (M_none_in c_3)) (cwV 1 hts gX3_remainder_X3_nothing rfl rfl rfl kV_X3_nothing ⟨Nat.le_of_ble_eq_true rfl, Nat.le_of_ble_eq_true rfl⟩) ⟨PB.blind, va_recv hK hP (ci := 2) (q0 := 0) rfl rfl, PB.pre hK hP⟩ rfl rfl hl.1 rfl (lv_room (Nat.le_of_ble_eq_true rfl)) dX3_remainder_57 ⟨Nat.le_of_ble_eq_true rfl, Nat.le_of_ble_eq_true rfl⟩)) (fun r9 e9 => ?_)
              rw [e9]
              refine lv_if_ne (tgt := 76) hx hb dX3_remainder_60 (by decide) (fun c_11 => ?_) (fun c_11 => ?_)
              · refine lv_iconst (v := 0) hx hb dX3_remainder_76 (by decide) ?_
                exact J _ (by rw [if_neg c_10, if_neg c_11]; try rfl)
              · refine lv_aload_n hx hb dX3_remainder_63 rfl (lv_at hl 0 rfl) ?_
                refine lv_iload_n hx hb dX3_remainder_64 rfl (lv_at hl 2 rfl) ?_
                refine vp_callSi (va_cr (va_runV (As := [.int rb]) (rest := [.int rb, .int ra, .ref h]) ⟨hx, hb, hml, hown, hts⟩ (c_X3_kind l D h q1 q2 cA cB 0 ct tf ff otd_7 oan_8 qb pa aT aF dg fi lo rb (M_none_in c_3)) (cwV 1 hts gX3_remainder_X3_kind rfl rfl rfl kV_X3_kind ⟨Nat.le_of_ble_eq_true rfl, Nat.le_of_ble_eq_true rfl⟩) ⟨PB.blind, va_recv hK hP (ci := 2) (q0 := 0) rfl rfl, PB.pre hK hP⟩ rfl rfl hl.1 rfl (lv_room (Nat.le_of_ble_eq_true rfl)) dX3_remainder_65 ⟨Nat.le_of_ble_eq_true rfl, Nat.le_of_ble_eq_true rfl⟩)) (fun r9 e9 => ?_)
                rw [e9]
                refine lv_iconst (v := 2) hx hb dX3_remainder_68 (by decide) ?_
                refine lv_icmp_eq (tgt := 76) hx hb dX3_remainder_69 (by decide) (fun c_12 => ?_) (fun c_12 => ?_)
                · refine lv_iconst (v := 0) hx hb dX3_remainder_76 (by decide) ?_
                  exact J _ (by rw [if_neg c_10, if_pos c_11, if_pos c_12]; try rfl)
                · refine lv_iconst (v := 1) hx hb dX3_remainder_72 (by decide) ?_
                  refine lv_goto (tgt := 77) hx hb dX3_remainder_73 (by decide) ?_
                  exact J _ (by rw [if_neg c_10, if_pos c_11, if_neg c_12]; try rfl)
          have hFc := va_free (wc := cMd h q1 q2 cA cB 0 ct tf ff otd_7 oan_8 qb pa aT aF dg fi lo) hD hS hA [0, 1, 2] rfl
          refine va_calli (va_runV (As := [.int ra, .int rb, .int (bI (if (M_kind (tf ra.toNatClampNeg) (ff ra.toNatClampNeg)) = 4 then false else (if bI (M_nothing (tf rb.toNatClampNeg) (ff rb.toNatClampNeg)) = 0 then (if (M_kind (tf rb.toNatClampNeg) (ff rb.toNatClampNeg)) = 2 then false else true) else false)))]) (rest := []) ⟨hx, hb, hml, hown, hts⟩ (c_X3_goesOn l D h q1 q2 cA cB 0 ct tf ff otd_7 oan_8 qb pa aT aF dg fi lo ra rb (if (M_kind (tf ra.toNatClampNeg) (ff ra.toNatClampNeg)) = 4 then false else (if bI (M_nothing (tf rb.toNatClampNeg) (ff rb.toNatClampNeg)) = 0 then (if (M_kind (tf rb.toNatClampNeg) (ff rb.toNatClampNeg)) = 2 then false else true) else false)) H.size (M_none_in c_1) (fun _ => (M_none_in c_3))) (cwV 3 hts gX3_remainder_X3_goesOn rfl rfl rfl kV_X3_goesOn ⟨Nat.le_of_ble_eq_true rfl, Nat.le_of_ble_eq_true rfl⟩) ⟨MMB.blind, va_recv hK hP (ci := 2) (q0 := 0) rfl rfl, MMB.pre hK hP hD⟩ rfl rfl hl.1 rfl (lv_room (Nat.le_of_ble_eq_true rfl)) dX3_remainder_77 ⟨Nat.le_of_ble_eq_true rfl, Nat.le_of_ble_eq_true rfl⟩) hS (fun q _ h9 => hFc q h9) hFc (fun r9 v_13 t9 H locs ht hvm hw hB hz1 hk1 hS => ?_)
          obtain rfl := hw
          obtain ⟨otd_14, oan_15, oaT_16, oaF_17, e_18, hP, hD9⟩ := hB
          rw [ht] at hP
          have hD : va_D A (cMd h q1 q2 cA cB 0 ct tf ff otd_14 oan_15 qb pa oaT_16 oaF_17 dg fi lo) := hD9.weaken (fun _ _ _ h => hFc _ h)
          refine lv_if_eq (tgt := 89) hx hb dX3_remainder_80 (by decide) (fun c_19 => ?_) (fun c_19 => ?_)
          · refine lv_aload_n hx hb dX3_remainder_89 rfl (lv_at hl 0 rfl) ?_
            refine lv_iload_n hx hb dX3_remainder_90 rfl (lv_at hl 3 rfl) ?_
            have hFc := va_free (wc := cMd h q1 q2 cA cB 0 ct tf ff otd_14 oan_15 qb pa oaT_16 oaF_17 dg fi lo) hD hS hA [0, 1, 2] rfl
            refine va_callv (va_runV (As := [.int rc]) (rest := []) ⟨hx, hb, hml, hown, hts⟩ (c_X3_keep l D h q1 q2 cA cB 0 ct tf ff otd_14 oan_15 qb pa oaT_16 oaF_17 dg fi lo rc H.size (M_none_in c_5)) (cwV 1 hts gX3_remainder_X3_keep rfl rfl rfl kV_X3_keep ⟨Nat.le_of_ble_eq_true rfl, Nat.le_of_ble_eq_true rfl⟩) ⟨MMB.blind, va_recv hK hP (ci := 2) (q0 := 0) rfl rfl, MMB.pre hK hP hD⟩ rfl rfl hl.1 rfl (lv_room (Nat.le_of_ble_eq_true rfl)) dX3_remainder_91 ⟨Nat.le_of_ble_eq_true rfl, Nat.le_of_ble_eq_true rfl⟩) hS (fun q _ h9 => hFc q h9) hFc (fun u9 t9 H locs ht hvm hw hB hz1 hk1 hS => ?_)
            obtain ⟨otf_20, off_21, e_22, hP, hD9⟩ := hB
            rw [ht] at hP
            have hD : va_D A (cMd h q1 q2 cA cB 0 ct otf_20 off_21 otd_14 oan_15 qb pa oaT_16 oaF_17 dg fi lo) := hD9.weaken (fun _ _ _ h => hFc _ h)
            refine lv_aload_n hx hb dX3_remainder_94 rfl (lv_at hl 0 rfl) ?_
            refine va_get (v := .int otd_14) (C := RX3) (T := TX3) (N := 13) hx hb hts in_X3 hown hK hP 0 rfl rfl 4 (by decide) w_3 (fun _ h9 => h9) rfl dX3_remainder_95 ?_
            have hw : M_remainder tf ff ct td an qb pa aT aF dg fi lo ra rb rc = (otd_14, 0, otf_20, off_21, otd_14, oan_15, qb, pa, oaT_16, oaF_17, dg, fi, lo) := by unfold M_remainder; rw [if_pos c_1, if_pos c_3, if_pos c_5, tup2_e e_9, tup5_e e_18, if_pos c_19, tup2_e e_22]; try rfl
            exact W.iret hx hb hr (fun t9 ht hW => ⟨⟨_, otd_14, rfl, rfl, ⟨0, otf_20, off_21, otd_14, oan_15, qb, pa, oaT_16, oaF_17, dg, fi, lo, hw, by rw [ht]; exact hP, hD⟩⟩, hS.F ht⟩) hS.2.2 dX3_remainder_98
          · refine lv_aload_n hx hb dX3_remainder_83 rfl (lv_at hl 0 rfl) ?_
            refine lv_iload_n hx hb dX3_remainder_84 rfl (lv_at hl 1 rfl) ?_
            refine lv_iload_n hx hb dX3_remainder_85 rfl (lv_at hl 2 rfl) ?_
            have hFc := va_free (wc := cMd h q1 q2 cA cB 0 ct tf ff otd_14 oan_15 qb pa oaT_16 oaF_17 dg fi lo) hD hS hA [0, 1, 2] rfl
            refine va_callv (va_runV (As := [.int ra, .int rb]) (rest := []) ⟨hx, hb, hml, hown, hts⟩ (c_X3_divide l D h q1 q2 cA cB 0 ct tf ff otd_14 oan_15 qb pa oaT_16 oaF_17 dg fi lo ra rb H.size (M_none_in c_1) (M_none_in c_3)) (cwV 2 hts gX3_remainder_X3_divide rfl rfl rfl kV_X3_divide ⟨Nat.le_of_ble_eq_true rfl, Nat.le_of_ble_eq_true rfl⟩) ⟨MMB.blind, va_recv hK hP (ci := 2) (q0 := 0) rfl rfl, MMB.pre hK hP hD⟩ rfl rfl hl.1 rfl (lv_room (Nat.le_of_ble_eq_true rfl)) dX3_remainder_86 ⟨Nat.le_of_ble_eq_true rfl, Nat.le_of_ble_eq_true rfl⟩) hS (fun q _ h9 => hFc q h9) hFc (fun u9 t9 H locs ht hvm hw hB hz1 hk1 hS => ?_)
            obtain ⟨otd_23, oan_24, oqb_25, opa_26, oaT_27, oaF_28, odg_29, ofi_30, olo_31, e_32, hP, hD9⟩ := hB
            rw [ht] at hP
            have hD : va_D A (cMd h q1 q2 cA cB 0 ct tf ff otd_23 oan_24 oqb_25 opa_26 oaT_27 oaF_28 odg_29 ofi_30 olo_31) := hD9.weaken (fun _ _ _ h => hFc _ h)
            refine lv_aload_n hx hb dX3_remainder_89 rfl (lv_at hl 0 rfl) ?_
            refine lv_iload_n hx hb dX3_remainder_90 rfl (lv_at hl 3 rfl) ?_
            have hFc := va_free (wc := cMd h q1 q2 cA cB 0 ct tf ff otd_23 oan_24 oqb_25 opa_26 oaT_27 oaF_28 odg_29 ofi_30 olo_31) hD hS hA [0, 1, 2] rfl
            refine va_callv (va_runV (As := [.int rc]) (rest := []) ⟨hx, hb, hml, hown, hts⟩ (c_X3_keep l D h q1 q2 cA cB 0 ct tf ff otd_23 oan_24 oqb_25 opa_26 oaT_27 oaF_28 odg_29 ofi_30 olo_31 rc H.size (M_none_in c_5)) (cwV 1 hts gX3_remainder_X3_keep rfl rfl rfl kV_X3_keep ⟨Nat.le_of_ble_eq_true rfl, Nat.le_of_ble_eq_true rfl⟩) ⟨MMB.blind, va_recv hK hP (ci := 2) (q0 := 0) rfl rfl, MMB.pre hK hP hD⟩ rfl rfl hl.1 rfl (lv_room (Nat.le_of_ble_eq_true rfl)) dX3_remainder_91 ⟨Nat.le_of_ble_eq_true rfl, Nat.le_of_ble_eq_true rfl⟩) hS (fun q _ h9 => hFc q h9) hFc (fun u9 t9 H locs ht hvm hw hB hz1 hk1 hS => ?_)
            obtain ⟨otf_33, off_34, e_35, hP, hD9⟩ := hB
            rw [ht] at hP
            have hD : va_D A (cMd h q1 q2 cA cB 0 ct otf_33 off_34 otd_23 oan_24 oqb_25 opa_26 oaT_27 oaF_28 odg_29 ofi_30 olo_31) := hD9.weaken (fun _ _ _ h => hFc _ h)
            refine lv_aload_n hx hb dX3_remainder_94 rfl (lv_at hl 0 rfl) ?_
            refine va_get (v := .int otd_23) (C := RX3) (T := TX3) (N := 13) hx hb hts in_X3 hown hK hP 0 rfl rfl 4 (by decide) w_3 (fun _ h9 => h9) rfl dX3_remainder_95 ?_
            have hw : M_remainder tf ff ct td an qb pa aT aF dg fi lo ra rb rc = (otd_23, 0, otf_33, off_34, otd_23, oan_24, oqb_25, opa_26, oaT_27, oaF_28, odg_29, ofi_30, olo_31) := by unfold M_remainder; rw [if_pos c_1, if_pos c_3, if_pos c_5, tup2_e e_9, tup5_e e_18, if_neg c_19, tup9_e e_32, tup2_e e_35]; try rfl
            exact W.iret hx hb hr (fun t9 ht hW => ⟨⟨_, otd_23, rfl, rfl, ⟨0, otf_33, off_34, otd_23, oan_24, oqb_25, opa_26, oaT_27, oaF_28, odg_29, ofi_30, olo_31, hw, by rw [ht]; exact hP, hD⟩⟩, hS.F ht⟩) hS.2.2 dX3_remainder_98
        · exact absurd c_6 (by decide)
      · refine lv_iconst (v := 1) hx hb dX3_remainder_22 (by decide) ?_
        refine lv_goto (tgt := 27) hx hb dX3_remainder_23 (by decide) ?_
        refine va_put (v := .int 1) (ty := .int) (C := RX3) (T := TX3) (N := 13) hx hb hts in_X3 tyX3 tyX3_ok nmX3 hown hK hP hD hS 0 rfl rfl 0 (by decide) w_1 (fun _ h9 => h9) rfl (tyX3_ok 0 (by decide)) rfl rfl (Nat.le_of_ble_eq_true rfl) dX3_remainder_27 (fun H locs hP hD hS => ?_)
        have hP : va_P D vwCl (cMd h q1 q2 cA cB 1 ct tf ff td an qb pa aT aF dg fi lo) H := hP
        have hD : va_D A (cMd h q1 q2 cA cB 1 ct tf ff td an qb pa aT aF dg fi lo) := hD
        refine lv_aload_n hx hb dX3_remainder_30 rfl (lv_at hl 0 rfl) ?_
        refine va_get (v := .int 1) (C := RX3) (T := TX3) (N := 13) hx hb hts in_X3 hown hK hP 0 rfl rfl 0 (by decide) w_1 (fun _ h9 => h9) rfl dX3_remainder_31 ?_
        refine lv_if_le (tgt := 39) hx hb dX3_remainder_34 (by decide) (fun c_36 => ?_) (fun c_36 => ?_)
        · exact absurd c_36 (by decide)
        · refine lv_iconst (v := 0) hx hb dX3_remainder_37 (by decide) ?_
          have hw : M_remainder tf ff ct td an qb pa aT aF dg fi lo ra rb rc = (0, 1, tf, ff, td, an, qb, pa, aT, aF, dg, fi, lo) := by unfold M_remainder; rw [if_pos c_1, if_pos c_3, if_neg c_5]; try rfl
          exact W.iret hx hb hr (fun t9 ht hW => ⟨⟨_, 0, rfl, rfl, ⟨1, tf, ff, td, an, qb, pa, aT, aF, dg, fi, lo, hw, by rw [ht]; exact hP, hD⟩⟩, hS.F ht⟩) hS.2.2 dX3_remainder_38
def M_order (ct : Int32) (dg : Int64) (fi : Int32) (ta : Int32) (fa : Int64) (wz : Bool) (tb : Int32) (fb : Int64) : Int32 × Int64 × Int32 :=
  if bI wz = 0 then (if bI (if (M_kind ta fa) = 4 then true else false) = 0 then (if (if bI (M_nothing ta fa) = 0 then (if bI (M_minus ta) = 0 then (1 : Int32) else (-1 : Int32)) else (0 : Int32)) = (if bI (M_nothing tb fb) = 0 then (if bI (M_minus tb) = 0 then (1 : Int32) else (-1 : Int32)) else (0 : Int32)) then (if (if bI (M_nothing ta fa) = 0 then (if bI (M_minus ta) = 0 then (1 : Int32) else (-1 : Int32)) else (0 : Int32)) = 0 then (0, dg, fi)
        else if bI (if (M_kind tb fb) = 4 then true else false) = 0 then (tup2 ((M_apart ta fa)) (fun odg_25 ofi_26 =>
            tup2 ((M_apart tb fb)) (fun odg_28 ofi_29 =>
              if ofi_26 = ofi_29 then ((if odg_25 = odg_28 then (0 : Int32) else (if bI (M_less odg_25 odg_28) = 0 then (if bI (M_nothing ta fa) = 0 then (if bI (M_minus ta) = 0 then (1 : Int32) else (-1 : Int32)) else (0 : Int32)) else (-(if bI (M_nothing ta fa) = 0 then (if bI (M_minus ta) = 0 then (1 : Int32) else (-1 : Int32)) else (0 : Int32))))), odg_28, ofi_29)
              else ((if ofi_29 ≤ ofi_26 then (if bI (M_nothing ta fa) = 0 then (if bI (M_minus ta) = 0 then (1 : Int32) else (-1 : Int32)) else (0 : Int32)) else (-(if bI (M_nothing ta fa) = 0 then (if bI (M_minus ta) = 0 then (1 : Int32) else (-1 : Int32)) else (0 : Int32)))), odg_28, ofi_29))))
        else ((-(if bI (M_nothing ta fa) = 0 then (if bI (M_minus ta) = 0 then (1 : Int32) else (-1 : Int32)) else (0 : Int32))), dg, fi))
      else ((if (if bI (M_nothing tb fb) = 0 then (if bI (M_minus tb) = 0 then (1 : Int32) else (-1 : Int32)) else (0 : Int32)) ≤ (if bI (M_nothing ta fa) = 0 then (if bI (M_minus ta) = 0 then (1 : Int32) else (-1 : Int32)) else (0 : Int32)) then (1 : Int32) else (-1 : Int32)), dg, fi))
    else if bI (if (M_kind tb fb) = 4 then true else false) = 0 then (if (if bI (M_nothing ta fa) = 0 then (if bI (M_minus ta) = 0 then (1 : Int32) else (-1 : Int32)) else (0 : Int32)) = (if bI (M_nothing tb fb) = 0 then (if bI (M_minus tb) = 0 then (1 : Int32) else (-1 : Int32)) else (0 : Int32)) then (if (if bI (M_nothing ta fa) = 0 then (if bI (M_minus ta) = 0 then (1 : Int32) else (-1 : Int32)) else (0 : Int32)) = 0 then (0, dg, fi)
        else ((if bI (M_nothing ta fa) = 0 then (if bI (M_minus ta) = 0 then (1 : Int32) else (-1 : Int32)) else (0 : Int32)), dg, fi))
      else ((if (if bI (M_nothing tb fb) = 0 then (if bI (M_minus tb) = 0 then (1 : Int32) else (-1 : Int32)) else (0 : Int32)) ≤ (if bI (M_nothing ta fa) = 0 then (if bI (M_minus ta) = 0 then (1 : Int32) else (-1 : Int32)) else (0 : Int32)) then (1 : Int32) else (-1 : Int32)), dg, fi))
    else if bI (M_masked ct 4096) = 0 then (0, dg, fi)
    else if (if bI (M_nothing ta fa) = 0 then (if bI (M_minus ta) = 0 then (1 : Int32) else (-1 : Int32)) else (0 : Int32)) = (if bI (M_nothing tb fb) = 0 then (if bI (M_minus tb) = 0 then (1 : Int32) else (-1 : Int32)) else (0 : Int32)) then (if (if bI (M_nothing ta fa) = 0 then (if bI (M_minus ta) = 0 then (1 : Int32) else (-1 : Int32)) else (0 : Int32)) = 0 then (0, dg, fi)
      else (0, dg, fi))
    else ((if (if bI (M_nothing tb fb) = 0 then (if bI (M_minus tb) = 0 then (1 : Int32) else (-1 : Int32)) else (0 : Int32)) ≤ (if bI (M_nothing ta fa) = 0 then (if bI (M_minus ta) = 0 then (1 : Int32) else (-1 : Int32)) else (0 : Int32)) then (1 : Int32) else (-1 : Int32)), dg, fi))
  else if bI (if (M_kind ta fa) = 4 then true else false) = 0 then (if (if bI (M_nothing ta fa) = 0 then (if bI (M_minus ta) = 0 then (1 : Int32) else (-1 : Int32)) else (0 : Int32)) = 0 then (0, dg, fi)
    else ((if 0 ≤ (if bI (M_nothing ta fa) = 0 then (if bI (M_minus ta) = 0 then (1 : Int32) else (-1 : Int32)) else (0 : Int32)) then (1 : Int32) else (-1 : Int32)), dg, fi))
  else if (if bI (M_nothing ta fa) = 0 then (if bI (M_minus ta) = 0 then (1 : Int32) else (-1 : Int32)) else (0 : Int32)) = 0 then (0, dg, fi)
  else ((if 0 ≤ (if bI (M_nothing ta fa) = 0 then (if bI (M_minus ta) = 0 then (1 : Int32) else (-1 : Int32)) else (0 : Int32)) then (1 : Int32) else (-1 : Int32)), dg, fi)
theorem kS_X3_order : yX3_order.cls ≠ "java/lang/invoke/MethodHandle" ∧ yX3_order.cls ≠ "java/lang/invoke/VarHandle" ∧ (parseMethodDescriptor yX3_order.desc).map (fun d => d.parameters.length) = some 3 := by decide +kernel
theorem kV_X3_order : yX3_order.cls = RX3 ∧ yX3_order.cls ≠ "java/lang/invoke/MethodHandle" ∧ yX3_order.cls ≠ "java/lang/invoke/VarHandle" ∧ (parseMethodDescriptor yX3_order.desc).map (fun d => d.parameters.length) = some 3 := ⟨rfl, kS_X3_order⟩
set_option maxHeartbeats 4000000 in
set_option maxRecDepth 100000 in
theorem c_X3_order (l : Launch) (D : va_G) (h : Nat) (q1 : Nat) (q2 : Nat) (cA : ClassId) (cB : ClassId) (cd : Int32) (ct : Int32) (tf : Nat → Int32) (ff : Nat → Int64) (td : Int32) (an : Bool) (qb : Int32) (pa : Bool) (aT : Int32) (aF : Int64) (dg : Int64) (fi : Int32) (lo : Bool) (ra : Int32) (wz : Bool) (rb : Int32) (sz : Nat) (hra : vp_in ra 8) (hrb : bI wz = 0 → vp_in rb 8) : Met l yX3_order wsX3_order ({ frames := 2, cells := 0, slots := 0, locals := 44 } : Room) (va_Pc [.ref h, .int ra, .int (bI wz), .int rb] (MMB D (tRS cA cB) (cMd h q1 q2 cA cB cd ct tf ff td an qb pa aT aF dg fi lo) sz)) (va_Qi (fun (r u : Int32) => r = u) (fun u t => ∃ (w_dg : Int64) (w_fi : Int32), M_order ct dg fi (tf ra.toNatClampNeg) (ff ra.toNatClampNeg) wz (tf rb.toNatClampNeg) (ff rb.toNatClampNeg) = (u, w_dg, w_fi) ∧ va_P D vwCl (cMd h q1 q2 cA cB cd ct tf ff td an qb pa aT aF w_dg w_fi lo) t.heap ∧ va_D (va_A (cMd h q1 q2 cA cB cd ct tf ff td an qb pa aT aF dg fi lo) sz) (cMd h q1 q2 cA cB cd ct tf ff td an qb pa aT aF w_dg w_fi lo)) (va_A (cMd h q1 q2 cA cB cd ct tf ff td an qb pa aT aF dg fi lo) sz)) 0 0 (va_A (cMd h q1 q2 cA cB cd ct tf ff td an qb pa aT aF dg fi lo) sz) := by
  refine Met.ofW (cc := cX3_order) (maxL := 11) (ret := (some .int)) (by decide) rfl ?_
  intro p e s m args below meth c s₁ B hml hv
  obtain ⟨rfl, hsz, hP, hK, hD0⟩ := hv
  have hx := B.exec
  have hb := B.bytes
  have hr := B.returns
  have hts := atoms_spec (ws := wsX3_order) B.pre
  have hown : s.vm.findClass RX3 = some m.cls := findClass_of_methodNamed B.named
  have hlocks := B.notSynchronized
  have w_1 := hts (.fieldLink RX3 50 "RealStepsModel" "digits" "J") (by decide +kernel)
  have in_X3 : ∀ w ∈ wsX30, w ∈ wsX3_order := by decide +kernel
  have w_3 := hts (.fieldLink RX3 57 "RealStepsModel" "first" "I") (by decide +kernel)
  subst hsz
  have hD := hD0.self (sz := s.heap.size)
  generalize hAe : va_A (cMd h q1 q2 cA cB cd ct tf ff td an qb pa aT aF dg fi lo) s.heap.size = A at hD ⊢
  have hA : ∀ q : Nat, s.heap.size ≤ q → A q := fun q h => by rw [← hAe]; exact Or.inr h
  have hS : va_S A s.heap s.heap [] := va_S.rf
  have hP : va_P D vwCl (cMd h q1 q2 cA cB cd ct tf ff td an qb pa aT aF dg fi lo) s.heap := hP
  have hl := lv_entry ([.ref h, .int ra, .int (bI wz), .int rb]) (n := 11) (Nat.le_of_ble_eq_true rfl)
  rw [lg_entry_eq]
  generalize (lg_sl ([.ref h, .int ra, .int (bI wz), .int rb]) ++ List.replicate (11 - (lg_sl ([.ref h, .int ra, .int (bI wz), .int rb])).length) Slot.unset).toArray = ls at hl ⊢
  have hl : lv_has ls 11 [(0, .ref h), (1, .int ra), (2, .int (bI wz)), (3, .int rb)] := hl
  refine lv_aload_n hx hb dX3_order_0 rfl (lv_at hl 0 rfl) ?_
  refine lv_iload_n hx hb dX3_order_1 rfl (lv_at hl 1 rfl) ?_
  refine vp_callSi (va_cr (va_runV (As := [.int ra]) (rest := []) ⟨hx, hb, hml, hown, hts⟩ (c_X3_nothing l D h q1 q2 cA cB cd ct tf ff td an qb pa aT aF dg fi lo ra hra) (cwV 1 hts gX3_order_X3_nothing rfl rfl rfl kV_X3_nothing ⟨Nat.le_of_ble_eq_true rfl, Nat.le_of_ble_eq_true rfl⟩) ⟨PB.blind, va_recv hK hP (ci := 2) (q0 := 0) rfl rfl, PB.pre hK hP⟩ rfl rfl hl.1 rfl (lv_room (Nat.le_of_ble_eq_true rfl)) dX3_order_2 ⟨Nat.le_of_ble_eq_true rfl, Nat.le_of_ble_eq_true rfl⟩)) (fun r9 e9 => ?_)
  rw [e9]
  refine q_cut (v := (if bI (M_nothing (tf ra.toNatClampNeg) (ff ra.toNatClampNeg)) = 0 then (if bI (M_minus (tf ra.toNatClampNeg)) = 0 then (1 : Int32) else (-1 : Int32)) else (0 : Int32))) (pcJ := 25) (rest := []) (fun J => ?_) ?_
  · refine lv_if_eq (tgt := 12) hx hb dX3_order_5 (by decide) (fun c_1 => ?_) (fun c_1 => ?_)
    · refine lv_aload_n hx hb dX3_order_12 rfl (lv_at hl 0 rfl) ?_
      refine lv_iload_n hx hb dX3_order_13 rfl (lv_at hl 1 rfl) ?_
      refine vp_callSi (va_cr (va_runV (As := [.int ra]) (rest := []) ⟨hx, hb, hml, hown, hts⟩ (c_X3_minus l D h q1 q2 cA cB cd ct tf ff td an qb pa aT aF dg fi lo ra hra) (cwV 1 hts gX3_order_X3_minus rfl rfl rfl kV_X3_minus ⟨Nat.le_of_ble_eq_true rfl, Nat.le_of_ble_eq_true rfl⟩) ⟨PB.blind, va_recv hK hP (ci := 2) (q0 := 0) rfl rfl, PB.pre hK hP⟩ rfl rfl hl.1 rfl (lv_room (Nat.le_of_ble_eq_true rfl)) dX3_order_14 ⟨Nat.le_of_ble_eq_true rfl, Nat.le_of_ble_eq_true rfl⟩)) (fun r9 e9 => ?_)
      rw [e9]
      refine lv_if_eq (tgt := 24) hx hb dX3_order_17 (by decide) (fun c_2 => ?_) (fun c_2 => ?_)
      · refine lv_iconst (v := 1) hx hb dX3_order_24 (by decide) ?_
        exact J _ (by rw [if_pos c_1, if_pos c_2]; try rfl)
      · refine lv_iconst (v := (-1)) hx hb dX3_order_20 (by decide) ?_
        refine lv_goto (tgt := 25) hx hb dX3_order_21 (by decide) ?_
        exact J _ (by rw [if_pos c_1, if_neg c_2]; try rfl)
    · refine lv_iconst (v := 0) hx hb dX3_order_8 (by decide) ?_
      refine lv_goto (tgt := 25) hx hb dX3_order_9 (by decide) ?_
      exact J _ (by rw [if_neg c_1]; try rfl)
  refine lv_istore (lv' := [(4, .int (if bI (M_nothing (tf ra.toNatClampNeg) (ff ra.toNatClampNeg)) = 0 then (if bI (M_minus (tf ra.toNatClampNeg)) = 0 then (1 : Int32) else (-1 : Int32)) else (0 : Int32))), (0, .ref h), (1, .int ra), (2, .int (bI wz)), (3, .int rb)]) hx hb dX3_order_25 hl (by decide) rfl (fun ls hl => ?_)
  refine lv_iload_n hx hb dX3_order_27 rfl (lv_at hl 3 rfl) ?_
  refine lv_if_ne (tgt := 39) hx hb dX3_order_28 (by decide) (fun c_3 => ?_) (fun c_3 => ?_)
  · refine lv_iconst (v := 0) hx hb dX3_order_39 (by decide) ?_
    refine lv_goto (tgt := 56) hx hb dX3_order_40 (by decide) ?_
    refine lv_istore (lv' := [(5, .int 0), (4, .int (if bI (M_nothing (tf ra.toNatClampNeg) (ff ra.toNatClampNeg)) = 0 then (if bI (M_minus (tf ra.toNatClampNeg)) = 0 then (1 : Int32) else (-1 : Int32)) else (0 : Int32))), (0, .ref h), (1, .int ra), (2, .int (bI wz)), (3, .int rb)]) hx hb dX3_order_56 hl (by decide) rfl (fun ls hl => ?_)
    refine lv_aload_n hx hb dX3_order_58 rfl (lv_at hl 2 rfl) ?_
    refine lv_iload_n hx hb dX3_order_59 rfl (lv_at hl 3 rfl) ?_
    refine vp_callSi (va_cr (va_runV (As := [.int ra]) (rest := []) ⟨hx, hb, hml, hown, hts⟩ (c_X3_kind l D h q1 q2 cA cB cd ct tf ff td an qb pa aT aF dg fi lo ra hra) (cwV 1 hts gX3_order_X3_kind rfl rfl rfl kV_X3_kind ⟨Nat.le_of_ble_eq_true rfl, Nat.le_of_ble_eq_true rfl⟩) ⟨PB.blind, va_recv hK hP (ci := 2) (q0 := 0) rfl rfl, PB.pre hK hP⟩ rfl rfl hl.1 rfl (lv_room (Nat.le_of_ble_eq_true rfl)) dX3_order_60 ⟨Nat.le_of_ble_eq_true rfl, Nat.le_of_ble_eq_true rfl⟩)) (fun r9 e9 => ?_)
    rw [e9]
    refine lv_iconst (v := 4) hx hb dX3_order_63 (by decide) ?_
    refine q_cut (v := bI (if (M_kind (tf ra.toNatClampNeg) (ff ra.toNatClampNeg)) = 4 then true else false)) (pcJ := 72) (rest := []) (fun J => ?_) ?_
    · refine lv_icmp_ne (tgt := 71) hx hb dX3_order_64 (by decide) (fun c_4 => ?_) (fun c_4 => ?_)
      · refine lv_iconst (v := 0) hx hb dX3_order_71 (by decide) ?_
        exact J _ (by rw [if_neg c_4]; try rfl)
      · refine lv_iconst (v := 1) hx hb dX3_order_67 (by decide) ?_
        refine lv_goto (tgt := 72) hx hb dX3_order_68 (by decide) ?_
        exact J _ (by rw [if_pos c_4]; try rfl)
    refine lv_istore (lv' := [(6, .int (bI (if (M_kind (tf ra.toNatClampNeg) (ff ra.toNatClampNeg)) = 4 then true else false))), (5, .int 0), (4, .int (if bI (M_nothing (tf ra.toNatClampNeg) (ff ra.toNatClampNeg)) = 0 then (if bI (M_minus (tf ra.toNatClampNeg)) = 0 then (1 : Int32) else (-1 : Int32)) else (0 : Int32))), (0, .ref h), (1, .int ra), (2, .int (bI wz)), (3, .int rb)]) hx hb dX3_order_72 hl (by decide) rfl (fun ls hl => ?_)
    refine lv_iload_n hx hb dX3_order_74 rfl (lv_at hl 5 rfl) ?_
    refine lv_if_ne (tgt := 91) hx hb dX3_order_75 (by decide) (fun c_5 => ?_) (fun c_5 => ?_)
    · refine lv_iconst (v := 0) hx hb dX3_order_91 (by decide) ?_
      refine lv_istore (lv' := [(7, .int 0), (6, .int (bI (if (M_kind (tf ra.toNatClampNeg) (ff ra.toNatClampNeg)) = 4 then true else false))), (5, .int 0), (4, .int (if bI (M_nothing (tf ra.toNatClampNeg) (ff ra.toNatClampNeg)) = 0 then (if bI (M_minus (tf ra.toNatClampNeg)) = 0 then (1 : Int32) else (-1 : Int32)) else (0 : Int32))), (0, .ref h), (1, .int ra), (2, .int (bI wz)), (3, .int rb)]) hx hb dX3_order_92 hl (by decide) rfl (fun ls hl => ?_)
      refine lv_iload hx hb dX3_order_94 (lv_at hl 1 rfl) ?_
      refine lv_if_eq (tgt := 116) hx hb dX3_order_96 (by decide) (fun c_6 => ?_) (fun c_6 => ?_)
      · refine lv_iload hx hb dX3_order_116 (lv_at hl 3 rfl) ?_
        refine lv_iload hx hb dX3_order_118 (lv_at hl 2 rfl) ?_
        refine lv_icmp_eq (tgt := 136) hx hb dX3_order_120 (by decide) (fun c_7 => ?_) (fun c_7 => ?_)
        · refine lv_iload hx hb dX3_order_136 (lv_at hl 3 rfl) ?_
          refine lv_if_eq (tgt := 151) hx hb dX3_order_138 (by decide) (fun c_8 => ?_) (fun c_8 => ?_)
          · refine lv_iconst (v := 0) hx hb dX3_order_151 (by decide) ?_
            have hw : M_order ct dg fi (tf ra.toNatClampNeg) (ff ra.toNatClampNeg) wz (tf rb.toNatClampNeg) (ff rb.toNatClampNeg) = (0, dg, fi) := by unfold M_order; rw [if_neg c_3, if_pos c_6, if_pos c_7]; try rfl
            exact W.iret hx hb hr (fun t9 ht hW => ⟨⟨_, 0, rfl, rfl, ⟨dg, fi, hw, by rw [ht]; exact hP, hD⟩⟩, hS.F ht⟩) hS.2.2 dX3_order_152
          · exact absurd c_7 c_8
        · refine lv_iload hx hb dX3_order_123 (lv_at hl 3 rfl) ?_
          refine lv_iload hx hb dX3_order_125 (lv_at hl 2 rfl) ?_
          refine q_cut (v := (if 0 ≤ (if bI (M_nothing (tf ra.toNatClampNeg) (ff ra.toNatClampNeg)) = 0 then (if bI (M_minus (tf ra.toNatClampNeg)) = 0 then (1 : Int32) else (-1 : Int32)) else (0 : Int32)) then (1 : Int32) else (-1 : Int32))) (pcJ := 135) (rest := []) (fun J => ?_) ?_
          · refine lv_icmp_ge (tgt := 134) hx hb dX3_order_127 (by decide) (fun c_9 => ?_) (fun c_9 => ?_)
            · refine lv_iconst (v := 1) hx hb dX3_order_134 (by decide) ?_
              exact J _ (by rw [if_pos c_9]; try rfl)
            · refine lv_iconst (v := (-1)) hx hb dX3_order_130 (by decide) ?_
              refine lv_goto (tgt := 135) hx hb dX3_order_131 (by decide) ?_
              exact J _ (by rw [if_neg c_9]; try rfl)
          have hw : M_order ct dg fi (tf ra.toNatClampNeg) (ff ra.toNatClampNeg) wz (tf rb.toNatClampNeg) (ff rb.toNatClampNeg) = ((if 0 ≤ (if bI (M_nothing (tf ra.toNatClampNeg) (ff ra.toNatClampNeg)) = 0 then (if bI (M_minus (tf ra.toNatClampNeg)) = 0 then (1 : Int32) else (-1 : Int32)) else (0 : Int32)) then (1 : Int32) else (-1 : Int32)), dg, fi) := by unfold M_order; rw [if_neg c_3, if_pos c_6, if_neg c_7]; try rfl
          exact W.iret hx hb hr (fun t9 ht hW => ⟨⟨_, (if 0 ≤ (if bI (M_nothing (tf ra.toNatClampNeg) (ff ra.toNatClampNeg)) = 0 then (if bI (M_minus (tf ra.toNatClampNeg)) = 0 then (1 : Int32) else (-1 : Int32)) else (0 : Int32)) then (1 : Int32) else (-1 : Int32)), rfl, rfl, ⟨dg, fi, hw, by rw [ht]; exact hP, hD⟩⟩, hS.F ht⟩) hS.2.2 dX3_order_135
      · refine lv_iload hx hb dX3_order_99 (lv_at hl 0 rfl) ?_
        refine lv_if_eq (tgt := 116) hx hb dX3_order_101 (by decide) (fun c_10 => ?_) (fun c_10 => ?_)
        · refine lv_iload hx hb dX3_order_116 (lv_at hl 3 rfl) ?_
          refine lv_iload hx hb dX3_order_118 (lv_at hl 2 rfl) ?_
          refine lv_icmp_eq (tgt := 136) hx hb dX3_order_120 (by decide) (fun c_11 => ?_) (fun c_11 => ?_)
          · refine lv_iload hx hb dX3_order_136 (lv_at hl 3 rfl) ?_
            refine lv_if_eq (tgt := 151) hx hb dX3_order_138 (by decide) (fun c_12 => ?_) (fun c_12 => ?_)
            · refine lv_iconst (v := 0) hx hb dX3_order_151 (by decide) ?_
              have hw : M_order ct dg fi (tf ra.toNatClampNeg) (ff ra.toNatClampNeg) wz (tf rb.toNatClampNeg) (ff rb.toNatClampNeg) = (0, dg, fi) := by unfold M_order; rw [if_neg c_3, if_neg c_6, if_pos c_11]; try rfl
              exact W.iret hx hb hr (fun t9 ht hW => ⟨⟨_, 0, rfl, rfl, ⟨dg, fi, hw, by rw [ht]; exact hP, hD⟩⟩, hS.F ht⟩) hS.2.2 dX3_order_152
            · exact absurd c_11 c_12
          · refine lv_iload hx hb dX3_order_123 (lv_at hl 3 rfl) ?_
            refine lv_iload hx hb dX3_order_125 (lv_at hl 2 rfl) ?_
            refine q_cut (v := (if 0 ≤ (if bI (M_nothing (tf ra.toNatClampNeg) (ff ra.toNatClampNeg)) = 0 then (if bI (M_minus (tf ra.toNatClampNeg)) = 0 then (1 : Int32) else (-1 : Int32)) else (0 : Int32)) then (1 : Int32) else (-1 : Int32))) (pcJ := 135) (rest := []) (fun J => ?_) ?_
            · refine lv_icmp_ge (tgt := 134) hx hb dX3_order_127 (by decide) (fun c_13 => ?_) (fun c_13 => ?_)
              · refine lv_iconst (v := 1) hx hb dX3_order_134 (by decide) ?_
                exact J _ (by rw [if_pos c_13]; try rfl)
              · refine lv_iconst (v := (-1)) hx hb dX3_order_130 (by decide) ?_
                refine lv_goto (tgt := 135) hx hb dX3_order_131 (by decide) ?_
                exact J _ (by rw [if_neg c_13]; try rfl)
            have hw : M_order ct dg fi (tf ra.toNatClampNeg) (ff ra.toNatClampNeg) wz (tf rb.toNatClampNeg) (ff rb.toNatClampNeg) = ((if 0 ≤ (if bI (M_nothing (tf ra.toNatClampNeg) (ff ra.toNatClampNeg)) = 0 then (if bI (M_minus (tf ra.toNatClampNeg)) = 0 then (1 : Int32) else (-1 : Int32)) else (0 : Int32)) then (1 : Int32) else (-1 : Int32)), dg, fi) := by unfold M_order; rw [if_neg c_3, if_neg c_6, if_neg c_11]; try rfl
            exact W.iret hx hb hr (fun t9 ht hW => ⟨⟨_, (if 0 ≤ (if bI (M_nothing (tf ra.toNatClampNeg) (ff ra.toNatClampNeg)) = 0 then (if bI (M_minus (tf ra.toNatClampNeg)) = 0 then (1 : Int32) else (-1 : Int32)) else (0 : Int32)) then (1 : Int32) else (-1 : Int32)), rfl, rfl, ⟨dg, fi, hw, by rw [ht]; exact hP, hD⟩⟩, hS.F ht⟩) hS.2.2 dX3_order_135
        · exact absurd c_10 (by decide)
    · exact absurd c_5 c_3
  · refine lv_aload_n hx hb dX3_order_31 rfl (lv_at hl 1 rfl) ?_
    refine lv_iload_n hx hb dX3_order_32 rfl (lv_at hl 4 rfl) ?_
    refine vp_callSi (va_cr (va_runV (As := [.int rb]) (rest := []) ⟨hx, hb, hml, hown, hts⟩ (c_X3_nothing l D h q1 q2 cA cB cd ct tf ff td an qb pa aT aF dg fi lo rb (hrb c_3)) (cwV 1 hts gX3_order_X3_nothing rfl rfl rfl kV_X3_nothing ⟨Nat.le_of_ble_eq_true rfl, Nat.le_of_ble_eq_true rfl⟩) ⟨PB.blind, va_recv hK hP (ci := 2) (q0 := 0) rfl rfl, PB.pre hK hP⟩ rfl rfl hl.1 rfl (lv_room (Nat.le_of_ble_eq_true rfl)) dX3_order_33 ⟨Nat.le_of_ble_eq_true rfl, Nat.le_of_ble_eq_true rfl⟩)) (fun r9 e9 => ?_)
    rw [e9]
    refine q_cut (v := (if bI (M_nothing (tf rb.toNatClampNeg) (ff rb.toNatClampNeg)) = 0 then (if bI (M_minus (tf rb.toNatClampNeg)) = 0 then (1 : Int32) else (-1 : Int32)) else (0 : Int32))) (pcJ := 56) (rest := []) (fun J => ?_) ?_
    · refine lv_if_eq (tgt := 43) hx hb dX3_order_36 (by decide) (fun c_14 => ?_) (fun c_14 => ?_)
      · refine lv_aload_n hx hb dX3_order_43 rfl (lv_at hl 1 rfl) ?_
        refine lv_iload_n hx hb dX3_order_44 rfl (lv_at hl 4 rfl) ?_
        refine vp_callSi (va_cr (va_runV (As := [.int rb]) (rest := []) ⟨hx, hb, hml, hown, hts⟩ (c_X3_minus l D h q1 q2 cA cB cd ct tf ff td an qb pa aT aF dg fi lo rb (hrb c_3)) (cwV 1 hts gX3_order_X3_minus rfl rfl rfl kV_X3_minus ⟨Nat.le_of_ble_eq_true rfl, Nat.le_of_ble_eq_true rfl⟩) ⟨PB.blind, va_recv hK hP (ci := 2) (q0 := 0) rfl rfl, PB.pre hK hP⟩ rfl rfl hl.1 rfl (lv_room (Nat.le_of_ble_eq_true rfl)) dX3_order_45 ⟨Nat.le_of_ble_eq_true rfl, Nat.le_of_ble_eq_true rfl⟩)) (fun r9 e9 => ?_)
        rw [e9]
        refine lv_if_eq (tgt := 55) hx hb dX3_order_48 (by decide) (fun c_15 => ?_) (fun c_15 => ?_)
        · refine lv_iconst (v := 1) hx hb dX3_order_55 (by decide) ?_
          exact J _ (by rw [if_pos c_14, if_pos c_15]; try rfl)
        · refine lv_iconst (v := (-1)) hx hb dX3_order_51 (by decide) ?_
          refine lv_goto (tgt := 56) hx hb dX3_order_52 (by decide) ?_
          exact J _ (by rw [if_pos c_14, if_neg c_15]; try rfl)
      · refine lv_iconst (v := 0) hx hb dX3_order_39 (by decide) ?_
        refine lv_goto (tgt := 56) hx hb dX3_order_40 (by decide) ?_
        exact J _ (by rw [if_neg c_14]; try rfl)
    refine lv_istore (lv' := [(5, .int (if bI (M_nothing (tf rb.toNatClampNeg) (ff rb.toNatClampNeg)) = 0 then (if bI (M_minus (tf rb.toNatClampNeg)) = 0 then (1 : Int32) else (-1 : Int32)) else (0 : Int32))), (4, .int (if bI (M_nothing (tf ra.toNatClampNeg) (ff ra.toNatClampNeg)) = 0 then (if bI (M_minus (tf ra.toNatClampNeg)) = 0 then (1 : Int32) else (-1 : Int32)) else (0 : Int32))), (0, .ref h), (1, .int ra), (2, .int (bI wz)), (3, .int rb)]) hx hb dX3_order_56 hl (by decide) rfl (fun ls hl => ?_)
    refine lv_aload_n hx hb dX3_order_58 rfl (lv_at hl 2 rfl) ?_
    refine lv_iload_n hx hb dX3_order_59 rfl (lv_at hl 3 rfl) ?_
    refine vp_callSi (va_cr (va_runV (As := [.int ra]) (rest := []) ⟨hx, hb, hml, hown, hts⟩ (c_X3_kind l D h q1 q2 cA cB cd ct tf ff td an qb pa aT aF dg fi lo ra hra) (cwV 1 hts gX3_order_X3_kind rfl rfl rfl kV_X3_kind ⟨Nat.le_of_ble_eq_true rfl, Nat.le_of_ble_eq_true rfl⟩) ⟨PB.blind, va_recv hK hP (ci := 2) (q0 := 0) rfl rfl, PB.pre hK hP⟩ rfl rfl hl.1 rfl (lv_room (Nat.le_of_ble_eq_true rfl)) dX3_order_60 ⟨Nat.le_of_ble_eq_true rfl, Nat.le_of_ble_eq_true rfl⟩)) (fun r9 e9 => ?_)
    rw [e9]
    refine lv_iconst (v := 4) hx hb dX3_order_63 (by decide) ?_
    refine q_cut (v := bI (if (M_kind (tf ra.toNatClampNeg) (ff ra.toNatClampNeg)) = 4 then true else false)) (pcJ := 72) (rest := []) (fun J => ?_) ?_
    · refine lv_icmp_ne (tgt := 71) hx hb dX3_order_64 (by decide) (fun c_16 => ?_) (fun c_16 => ?_)
      · refine lv_iconst (v := 0) hx hb dX3_order_71 (by decide) ?_
        exact J _ (by rw [if_neg c_16]; try rfl)
      · refine lv_iconst (v := 1) hx hb dX3_order_67 (by decide) ?_
        refine lv_goto (tgt := 72) hx hb dX3_order_68 (by decide) ?_
        exact J _ (by rw [if_pos c_16]; try rfl)
    refine lv_istore (lv' := [(6, .int (bI (if (M_kind (tf ra.toNatClampNeg) (ff ra.toNatClampNeg)) = 4 then true else false))), (5, .int (if bI (M_nothing (tf rb.toNatClampNeg) (ff rb.toNatClampNeg)) = 0 then (if bI (M_minus (tf rb.toNatClampNeg)) = 0 then (1 : Int32) else (-1 : Int32)) else (0 : Int32))), (4, .int (if bI (M_nothing (tf ra.toNatClampNeg) (ff ra.toNatClampNeg)) = 0 then (if bI (M_minus (tf ra.toNatClampNeg)) = 0 then (1 : Int32) else (-1 : Int32)) else (0 : Int32))), (0, .ref h), (1, .int ra), (2, .int (bI wz)), (3, .int rb)]) hx hb dX3_order_72 hl (by decide) rfl (fun ls hl => ?_)
    refine lv_iload_n hx hb dX3_order_74 rfl (lv_at hl 5 rfl) ?_
    refine lv_if_ne (tgt := 91) hx hb dX3_order_75 (by decide) (fun c_17 => ?_) (fun c_17 => ?_)
    · exact absurd c_3 c_17
    · refine lv_aload_n hx hb dX3_order_78 rfl (lv_at hl 3 rfl) ?_
      refine lv_iload_n hx hb dX3_order_79 rfl (lv_at hl 6 rfl) ?_
      refine vp_callSi (va_cr (va_runV (As := [.int rb]) (rest := []) ⟨hx, hb, hml, hown, hts⟩ (c_X3_kind l D h q1 q2 cA cB cd ct tf ff td an qb pa aT aF dg fi lo rb (hrb c_3)) (cwV 1 hts gX3_order_X3_kind rfl rfl rfl kV_X3_kind ⟨Nat.le_of_ble_eq_true rfl, Nat.le_of_ble_eq_true rfl⟩) ⟨PB.blind, va_recv hK hP (ci := 2) (q0 := 0) rfl rfl, PB.pre hK hP⟩ rfl rfl hl.1 rfl (lv_room (Nat.le_of_ble_eq_true rfl)) dX3_order_80 ⟨Nat.le_of_ble_eq_true rfl, Nat.le_of_ble_eq_true rfl⟩)) (fun r9 e9 => ?_)
      rw [e9]
      refine lv_iconst (v := 4) hx hb dX3_order_83 (by decide) ?_
      refine q_cut (v := bI (if (M_kind (tf rb.toNatClampNeg) (ff rb.toNatClampNeg)) = 4 then true else false)) (pcJ := 92) (rest := []) (fun J => ?_) ?_
      · refine lv_icmp_ne (tgt := 91) hx hb dX3_order_84 (by decide) (fun c_18 => ?_) (fun c_18 => ?_)
        · refine lv_iconst (v := 0) hx hb dX3_order_91 (by decide) ?_
          exact J _ (by rw [if_neg c_18]; try rfl)
        · refine lv_iconst (v := 1) hx hb dX3_order_87 (by decide) ?_
          refine lv_goto (tgt := 92) hx hb dX3_order_88 (by decide) ?_
          exact J _ (by rw [if_pos c_18]; try rfl)
      refine lv_istore (lv' := [(7, .int (bI (if (M_kind (tf rb.toNatClampNeg) (ff rb.toNatClampNeg)) = 4 then true else false))), (6, .int (bI (if (M_kind (tf ra.toNatClampNeg) (ff ra.toNatClampNeg)) = 4 then true else false))), (5, .int (if bI (M_nothing (tf rb.toNatClampNeg) (ff rb.toNatClampNeg)) = 0 then (if bI (M_minus (tf rb.toNatClampNeg)) = 0 then (1 : Int32) else (-1 : Int32)) else (0 : Int32))), (4, .int (if bI (M_nothing (tf ra.toNatClampNeg) (ff ra.toNatClampNeg)) = 0 then (if bI (M_minus (tf ra.toNatClampNeg)) = 0 then (1 : Int32) else (-1 : Int32)) else (0 : Int32))), (0, .ref h), (1, .int ra), (2, .int (bI wz)), (3, .int rb)]) hx hb dX3_order_92 hl (by decide) rfl (fun ls hl => ?_)
      refine lv_iload hx hb dX3_order_94 (lv_at hl 1 rfl) ?_
      refine lv_if_eq (tgt := 116) hx hb dX3_order_96 (by decide) (fun c_19 => ?_) (fun c_19 => ?_)
      · refine lv_iload hx hb dX3_order_116 (lv_at hl 3 rfl) ?_
        refine lv_iload hx hb dX3_order_118 (lv_at hl 2 rfl) ?_
        refine lv_icmp_eq (tgt := 136) hx hb dX3_order_120 (by decide) (fun c_20 => ?_) (fun c_20 => ?_)
        · refine lv_iload hx hb dX3_order_136 (lv_at hl 3 rfl) ?_
          refine lv_if_eq (tgt := 151) hx hb dX3_order_138 (by decide) (fun c_21 => ?_) (fun c_21 => ?_)
          · refine lv_iconst (v := 0) hx hb dX3_order_151 (by decide) ?_
            have hw : M_order ct dg fi (tf ra.toNatClampNeg) (ff ra.toNatClampNeg) wz (tf rb.toNatClampNeg) (ff rb.toNatClampNeg) = (0, dg, fi) := by unfold M_order; rw [if_pos c_3, if_pos c_19, if_pos c_20, if_pos c_21]; try rfl
            exact W.iret hx hb hr (fun t9 ht hW => ⟨⟨_, 0, rfl, rfl, ⟨dg, fi, hw, by rw [ht]; exact hP, hD⟩⟩, hS.F ht⟩) hS.2.2 dX3_order_152
          · refine lv_iload hx hb dX3_order_141 (lv_at hl 1 rfl) ?_
            refine lv_if_eq (tgt := 153) hx hb dX3_order_143 (by decide) (fun c_22 => ?_) (fun c_22 => ?_)
            · refine lv_iload hx hb dX3_order_153 (lv_at hl 1 rfl) ?_
              refine lv_if_ne (tgt := 163) hx hb dX3_order_155 (by decide) (fun c_23 => ?_) (fun c_23 => ?_)
              · exact absurd c_19 c_23
              · refine lv_iload hx hb dX3_order_158 (lv_at hl 0 rfl) ?_
                refine lv_if_eq (tgt := 177) hx hb dX3_order_160 (by decide) (fun c_24 => ?_) (fun c_24 => ?_)
                · refine lv_aload_n hx hb dX3_order_177 rfl (lv_at hl 4 rfl) ?_
                  refine lv_iload_n hx hb dX3_order_178 rfl (lv_at hl 5 rfl) ?_
                  have hFc := va_free (wc := cMd h q1 q2 cA cB cd ct tf ff td an qb pa aT aF dg fi lo) hD hS hA [0, 1, 2] rfl
                  refine va_callv (va_runV (As := [.int ra]) (rest := []) ⟨hx, hb, hml, hown, hts⟩ (c_X3_apart l D h q1 q2 cA cB cd ct tf ff td an qb pa aT aF dg fi lo ra s.heap.size hra) (cwV 1 hts gX3_order_X3_apart rfl rfl rfl kV_X3_apart ⟨Nat.le_of_ble_eq_true rfl, Nat.le_of_ble_eq_true rfl⟩) ⟨MMB.blind, va_recv hK hP (ci := 2) (q0 := 0) rfl rfl, MMB.pre hK hP hD⟩ rfl rfl hl.1 rfl (lv_room (Nat.le_of_ble_eq_true rfl)) dX3_order_179 ⟨Nat.le_of_ble_eq_true rfl, Nat.le_of_ble_eq_true rfl⟩) hS (fun q _ h9 => hFc q h9) hFc (fun u9 t9 H locs ht hvm hw hB hz1 hk1 hS => ?_)
                  obtain ⟨odg_25, ofi_26, e_27, hP, hD9⟩ := hB
                  rw [ht] at hP
                  have hD : va_D A (cMd h q1 q2 cA cB cd ct tf ff td an qb pa aT aF odg_25 ofi_26 lo) := hD9.weaken (fun _ _ _ h => hFc _ h)
                  refine lv_aload_n hx hb dX3_order_182 rfl (lv_at hl 4 rfl) ?_
                  refine va_get (v := .long odg_25) (C := RX3) (T := TX3) (N := 13) hx hb hts in_X3 hown hK hP 0 rfl rfl 10 (by decide) w_1 (fun _ h9 => h9) rfl dX3_order_183 ?_
                  refine lv_lstore (lv' := [(8, .long odg_25), (7, .int (bI (if (M_kind (tf rb.toNatClampNeg) (ff rb.toNatClampNeg)) = 4 then true else false))), (6, .int (bI (if (M_kind (tf ra.toNatClampNeg) (ff ra.toNatClampNeg)) = 4 then true else false))), (5, .int (if bI (M_nothing (tf rb.toNatClampNeg) (ff rb.toNatClampNeg)) = 0 then (if bI (M_minus (tf rb.toNatClampNeg)) = 0 then (1 : Int32) else (-1 : Int32)) else (0 : Int32))), (4, .int (if bI (M_nothing (tf ra.toNatClampNeg) (ff ra.toNatClampNeg)) = 0 then (if bI (M_minus (tf ra.toNatClampNeg)) = 0 then (1 : Int32) else (-1 : Int32)) else (0 : Int32))), (0, .ref h), (1, .int ra), (2, .int (bI wz)), (3, .int rb)]) hx hb dX3_order_186 hl (by decide) rfl (fun ls hl => ?_)
                  refine lv_aload_n hx hb dX3_order_188 rfl (lv_at hl 5 rfl) ?_
                  refine va_get (v := .int ofi_26) (C := RX3) (T := TX3) (N := 13) hx hb hts in_X3 hown hK hP 0 rfl rfl 11 (by decide) w_3 (fun _ h9 => h9) rfl dX3_order_189 ?_
                  refine lv_istore (lv' := [(10, .int ofi_26), (8, .long odg_25), (7, .int (bI (if (M_kind (tf rb.toNatClampNeg) (ff rb.toNatClampNeg)) = 4 then true else false))), (6, .int (bI (if (M_kind (tf ra.toNatClampNeg) (ff ra.toNatClampNeg)) = 4 then true else false))), (5, .int (if bI (M_nothing (tf rb.toNatClampNeg) (ff rb.toNatClampNeg)) = 0 then (if bI (M_minus (tf rb.toNatClampNeg)) = 0 then (1 : Int32) else (-1 : Int32)) else (0 : Int32))), (4, .int (if bI (M_nothing (tf ra.toNatClampNeg) (ff ra.toNatClampNeg)) = 0 then (if bI (M_minus (tf ra.toNatClampNeg)) = 0 then (1 : Int32) else (-1 : Int32)) else (0 : Int32))), (0, .ref h), (1, .int ra), (2, .int (bI wz)), (3, .int rb)]) hx hb dX3_order_192 hl (by decide) rfl (fun ls hl => ?_)
                  refine lv_aload_n hx hb dX3_order_194 rfl (lv_at hl 6 rfl) ?_
                  refine lv_iload_n hx hb dX3_order_195 rfl (lv_at hl 9 rfl) ?_
                  have hFc := va_free (wc := cMd h q1 q2 cA cB cd ct tf ff td an qb pa aT aF odg_25 ofi_26 lo) hD hS hA [0, 1, 2] rfl
                  refine va_callv (va_runV (As := [.int rb]) (rest := []) ⟨hx, hb, hml, hown, hts⟩ (c_X3_apart l D h q1 q2 cA cB cd ct tf ff td an qb pa aT aF odg_25 ofi_26 lo rb H.size (hrb c_3)) (cwV 1 hts gX3_order_X3_apart rfl rfl rfl kV_X3_apart ⟨Nat.le_of_ble_eq_true rfl, Nat.le_of_ble_eq_true rfl⟩) ⟨MMB.blind, va_recv hK hP (ci := 2) (q0 := 0) rfl rfl, MMB.pre hK hP hD⟩ rfl rfl hl.1 rfl (lv_room (Nat.le_of_ble_eq_true rfl)) dX3_order_196 ⟨Nat.le_of_ble_eq_true rfl, Nat.le_of_ble_eq_true rfl⟩) hS (fun q _ h9 => hFc q h9) hFc (fun u9 t9 H locs ht hvm hw hB hz1 hk1 hS => ?_)
                  obtain ⟨odg_28, ofi_29, e_30, hP, hD9⟩ := hB
                  rw [ht] at hP
                  have hD : va_D A (cMd h q1 q2 cA cB cd ct tf ff td an qb pa aT aF odg_28 ofi_29 lo) := hD9.weaken (fun _ _ _ h => hFc _ h)
                  refine lv_iload hx hb dX3_order_199 (lv_at hl 0 rfl) ?_
                  refine lv_aload_n hx hb dX3_order_201 rfl (lv_at hl 6 rfl) ?_
                  refine va_get (v := .int ofi_29) (C := RX3) (T := TX3) (N := 13) hx hb hts in_X3 hown hK hP 0 rfl rfl 11 (by decide) w_3 (fun _ h9 => h9) rfl dX3_order_202 ?_
                  refine lv_icmp_eq (tgt := 226) hx hb dX3_order_205 (by decide) (fun c_31 => ?_) (fun c_31 => ?_)
                  · refine lv_lload hx hb dX3_order_226 (lv_at hl 1 rfl) ?_
                    refine lv_aload_n hx hb dX3_order_228 rfl (lv_at hl 6 rfl) ?_
                    refine va_get (v := .long odg_28) (C := RX3) (T := TX3) (N := 13) hx hb hts in_X3 hown hK hP 0 rfl rfl 10 (by decide) w_1 (fun _ h9 => h9) rfl dX3_order_229 ?_
                    refine q_cut (v := (if odg_25 = odg_28 then (0 : Int32) else (if bI (M_less odg_25 odg_28) = 0 then (if bI (M_nothing (tf ra.toNatClampNeg) (ff ra.toNatClampNeg)) = 0 then (if bI (M_minus (tf ra.toNatClampNeg)) = 0 then (1 : Int32) else (-1 : Int32)) else (0 : Int32)) else (-(if bI (M_nothing (tf ra.toNatClampNeg) (ff ra.toNatClampNeg)) = 0 then (if bI (M_minus (tf ra.toNatClampNeg)) = 0 then (1 : Int32) else (-1 : Int32)) else (0 : Int32)))))) (pcJ := 260) (rest := []) (fun J => ?_) ?_
                    · refine q_cl_ne (tgt := 240) hx hb dX3_order_232 dX3_order_233 (by decide) (fun c_32 => ?_) (fun c_32 => ?_)
                      · refine lv_lload hx hb dX3_order_240 (lv_at hl 1 rfl) ?_
                        refine lv_aload_n hx hb dX3_order_242 rfl (lv_at hl 6 rfl) ?_
                        refine va_get (v := .long odg_28) (C := RX3) (T := TX3) (N := 13) hx hb hts in_X3 hown hK hP 0 rfl rfl 10 (by decide) w_1 (fun _ h9 => h9) rfl dX3_order_243 ?_
                        refine vp_callSi (va_cr (va_runS (As := [.long odg_25, .long odg_28]) (rest := []) ⟨hx, hb, hml, hown, hts⟩ (c_X3_lessSize l odg_25 odg_28) (va_cwS 2 hts gX3_order_X3_lessSize rfl rfl rfl kS_X3_lessSize ⟨Nat.le_of_ble_eq_true rfl, Nat.le_of_ble_eq_true rfl⟩) ⟨TB.blind, TB.pre⟩ rfl rfl hl.1 rfl (lv_room (Nat.le_of_ble_eq_true rfl)) dX3_order_246 ⟨Nat.le_of_ble_eq_true rfl, Nat.le_of_ble_eq_true rfl⟩)) (fun r9 e9 => ?_)
                        rw [e9]
                        refine lv_if_eq (tgt := 258) hx hb dX3_order_249 (by decide) (fun c_33 => ?_) (fun c_33 => ?_)
                        · refine lv_iload hx hb dX3_order_258 (lv_at hl 5 rfl) ?_
                          exact J _ (by rw [if_neg c_32, if_pos c_33]; try rfl)
                        · refine lv_iload hx hb dX3_order_252 (lv_at hl 5 rfl) ?_
                          refine lv_ineg hx hb dX3_order_254 ?_
                          refine lv_goto (tgt := 260) hx hb dX3_order_255 (by decide) ?_
                          exact J _ (by rw [if_neg c_32, if_neg c_33]; try rfl)
                      · refine lv_iconst (v := 0) hx hb dX3_order_236 (by decide) ?_
                        refine lv_goto (tgt := 260) hx hb dX3_order_237 (by decide) ?_
                        exact J _ (by rw [if_pos c_32]; try rfl)
                    have hw : M_order ct dg fi (tf ra.toNatClampNeg) (ff ra.toNatClampNeg) wz (tf rb.toNatClampNeg) (ff rb.toNatClampNeg) = ((if odg_25 = odg_28 then (0 : Int32) else (if bI (M_less odg_25 odg_28) = 0 then (if bI (M_nothing (tf ra.toNatClampNeg) (ff ra.toNatClampNeg)) = 0 then (if bI (M_minus (tf ra.toNatClampNeg)) = 0 then (1 : Int32) else (-1 : Int32)) else (0 : Int32)) else (-(if bI (M_nothing (tf ra.toNatClampNeg) (ff ra.toNatClampNeg)) = 0 then (if bI (M_minus (tf ra.toNatClampNeg)) = 0 then (1 : Int32) else (-1 : Int32)) else (0 : Int32))))), odg_28, ofi_29) := by unfold M_order; rw [if_pos c_3, if_pos c_19, if_pos c_20, if_neg c_21, if_pos c_24, tup2_e e_27, tup2_e e_30, if_pos c_31]; try rfl
                    exact W.iret hx hb hr (fun t9 ht hW => ⟨⟨_, (if odg_25 = odg_28 then (0 : Int32) else (if bI (M_less odg_25 odg_28) = 0 then (if bI (M_nothing (tf ra.toNatClampNeg) (ff ra.toNatClampNeg)) = 0 then (if bI (M_minus (tf ra.toNatClampNeg)) = 0 then (1 : Int32) else (-1 : Int32)) else (0 : Int32)) else (-(if bI (M_nothing (tf ra.toNatClampNeg) (ff ra.toNatClampNeg)) = 0 then (if bI (M_minus (tf ra.toNatClampNeg)) = 0 then (1 : Int32) else (-1 : Int32)) else (0 : Int32))))), rfl, rfl, ⟨odg_28, ofi_29, hw, by rw [ht]; exact hP, hD⟩⟩, hS.F ht⟩) hS.2.2 dX3_order_260
                  · refine lv_iload hx hb dX3_order_208 (lv_at hl 0 rfl) ?_
                    refine lv_aload_n hx hb dX3_order_210 rfl (lv_at hl 6 rfl) ?_
                    refine va_get (v := .int ofi_29) (C := RX3) (T := TX3) (N := 13) hx hb hts in_X3 hown hK hP 0 rfl rfl 11 (by decide) w_3 (fun _ h9 => h9) rfl dX3_order_211 ?_
                    refine q_cut (v := (if ofi_29 ≤ ofi_26 then (if bI (M_nothing (tf ra.toNatClampNeg) (ff ra.toNatClampNeg)) = 0 then (if bI (M_minus (tf ra.toNatClampNeg)) = 0 then (1 : Int32) else (-1 : Int32)) else (0 : Int32)) else (-(if bI (M_nothing (tf ra.toNatClampNeg) (ff ra.toNatClampNeg)) = 0 then (if bI (M_minus (tf ra.toNatClampNeg)) = 0 then (1 : Int32) else (-1 : Int32)) else (0 : Int32))))) (pcJ := 225) (rest := []) (fun J => ?_) ?_
                    · refine lv_icmp_ge (tgt := 223) hx hb dX3_order_214 (by decide) (fun c_34 => ?_) (fun c_34 => ?_)
                      · refine lv_iload hx hb dX3_order_223 (lv_at hl 5 rfl) ?_
                        exact J _ (by rw [if_pos c_34]; try rfl)
                      · refine lv_iload hx hb dX3_order_217 (lv_at hl 5 rfl) ?_
                        refine lv_ineg hx hb dX3_order_219 ?_
                        refine lv_goto (tgt := 225) hx hb dX3_order_220 (by decide) ?_
                        exact J _ (by rw [if_neg c_34]; try rfl)
                    have hw : M_order ct dg fi (tf ra.toNatClampNeg) (ff ra.toNatClampNeg) wz (tf rb.toNatClampNeg) (ff rb.toNatClampNeg) = ((if ofi_29 ≤ ofi_26 then (if bI (M_nothing (tf ra.toNatClampNeg) (ff ra.toNatClampNeg)) = 0 then (if bI (M_minus (tf ra.toNatClampNeg)) = 0 then (1 : Int32) else (-1 : Int32)) else (0 : Int32)) else (-(if bI (M_nothing (tf ra.toNatClampNeg) (ff ra.toNatClampNeg)) = 0 then (if bI (M_minus (tf ra.toNatClampNeg)) = 0 then (1 : Int32) else (-1 : Int32)) else (0 : Int32)))), odg_28, ofi_29) := by unfold M_order; rw [if_pos c_3, if_pos c_19, if_pos c_20, if_neg c_21, if_pos c_24, tup2_e e_27, tup2_e e_30, if_neg c_31]; try rfl
                    exact W.iret hx hb hr (fun t9 ht hW => ⟨⟨_, (if ofi_29 ≤ ofi_26 then (if bI (M_nothing (tf ra.toNatClampNeg) (ff ra.toNatClampNeg)) = 0 then (if bI (M_minus (tf ra.toNatClampNeg)) = 0 then (1 : Int32) else (-1 : Int32)) else (0 : Int32)) else (-(if bI (M_nothing (tf ra.toNatClampNeg) (ff ra.toNatClampNeg)) = 0 then (if bI (M_minus (tf ra.toNatClampNeg)) = 0 then (1 : Int32) else (-1 : Int32)) else (0 : Int32)))), rfl, rfl, ⟨odg_28, ofi_29, hw, by rw [ht]; exact hP, hD⟩⟩, hS.F ht⟩) hS.2.2 dX3_order_225
                · refine lv_iload hx hb dX3_order_163 (lv_at hl 1 rfl) ?_
                  refine lv_if_eq (tgt := 173) hx hb dX3_order_165 (by decide) (fun c_35 => ?_) (fun c_35 => ?_)
                  · refine lv_iload hx hb dX3_order_173 (lv_at hl 3 rfl) ?_
                    refine lv_ineg hx hb dX3_order_175 ?_
                    have hw : M_order ct dg fi (tf ra.toNatClampNeg) (ff ra.toNatClampNeg) wz (tf rb.toNatClampNeg) (ff rb.toNatClampNeg) = ((-(if bI (M_nothing (tf ra.toNatClampNeg) (ff ra.toNatClampNeg)) = 0 then (if bI (M_minus (tf ra.toNatClampNeg)) = 0 then (1 : Int32) else (-1 : Int32)) else (0 : Int32))), dg, fi) := by unfold M_order; rw [if_pos c_3, if_pos c_19, if_pos c_20, if_neg c_21, if_neg c_24]; try rfl
                    exact W.iret hx hb hr (fun t9 ht hW => ⟨⟨_, (-(if bI (M_nothing (tf ra.toNatClampNeg) (ff ra.toNatClampNeg)) = 0 then (if bI (M_minus (tf ra.toNatClampNeg)) = 0 then (1 : Int32) else (-1 : Int32)) else (0 : Int32))), rfl, rfl, ⟨dg, fi, hw, by rw [ht]; exact hP, hD⟩⟩, hS.F ht⟩) hS.2.2 dX3_order_176
                  · exact absurd c_19 c_35
            · exact absurd c_19 c_22
        · refine lv_iload hx hb dX3_order_123 (lv_at hl 3 rfl) ?_
          refine lv_iload hx hb dX3_order_125 (lv_at hl 2 rfl) ?_
          refine q_cut (v := (if (if bI (M_nothing (tf rb.toNatClampNeg) (ff rb.toNatClampNeg)) = 0 then (if bI (M_minus (tf rb.toNatClampNeg)) = 0 then (1 : Int32) else (-1 : Int32)) else (0 : Int32)) ≤ (if bI (M_nothing (tf ra.toNatClampNeg) (ff ra.toNatClampNeg)) = 0 then (if bI (M_minus (tf ra.toNatClampNeg)) = 0 then (1 : Int32) else (-1 : Int32)) else (0 : Int32)) then (1 : Int32) else (-1 : Int32))) (pcJ := 135) (rest := []) (fun J => ?_) ?_
          · refine lv_icmp_ge (tgt := 134) hx hb dX3_order_127 (by decide) (fun c_36 => ?_) (fun c_36 => ?_)
            · refine lv_iconst (v := 1) hx hb dX3_order_134 (by decide) ?_
              exact J _ (by rw [if_pos c_36]; try rfl)
            · refine lv_iconst (v := (-1)) hx hb dX3_order_130 (by decide) ?_
              refine lv_goto (tgt := 135) hx hb dX3_order_131 (by decide) ?_
              exact J _ (by rw [if_neg c_36]; try rfl)
          have hw : M_order ct dg fi (tf ra.toNatClampNeg) (ff ra.toNatClampNeg) wz (tf rb.toNatClampNeg) (ff rb.toNatClampNeg) = ((if (if bI (M_nothing (tf rb.toNatClampNeg) (ff rb.toNatClampNeg)) = 0 then (if bI (M_minus (tf rb.toNatClampNeg)) = 0 then (1 : Int32) else (-1 : Int32)) else (0 : Int32)) ≤ (if bI (M_nothing (tf ra.toNatClampNeg) (ff ra.toNatClampNeg)) = 0 then (if bI (M_minus (tf ra.toNatClampNeg)) = 0 then (1 : Int32) else (-1 : Int32)) else (0 : Int32)) then (1 : Int32) else (-1 : Int32)), dg, fi) := by unfold M_order; rw [if_pos c_3, if_pos c_19, if_neg c_20]; try rfl
          exact W.iret hx hb hr (fun t9 ht hW => ⟨⟨_, (if (if bI (M_nothing (tf rb.toNatClampNeg) (ff rb.toNatClampNeg)) = 0 then (if bI (M_minus (tf rb.toNatClampNeg)) = 0 then (1 : Int32) else (-1 : Int32)) else (0 : Int32)) ≤ (if bI (M_nothing (tf ra.toNatClampNeg) (ff ra.toNatClampNeg)) = 0 then (if bI (M_minus (tf ra.toNatClampNeg)) = 0 then (1 : Int32) else (-1 : Int32)) else (0 : Int32)) then (1 : Int32) else (-1 : Int32)), rfl, rfl, ⟨dg, fi, hw, by rw [ht]; exact hP, hD⟩⟩, hS.F ht⟩) hS.2.2 dX3_order_135
      · refine lv_iload hx hb dX3_order_99 (lv_at hl 0 rfl) ?_
        refine lv_if_eq (tgt := 116) hx hb dX3_order_101 (by decide) (fun c_37 => ?_) (fun c_37 => ?_)
        · refine lv_iload hx hb dX3_order_116 (lv_at hl 3 rfl) ?_
          refine lv_iload hx hb dX3_order_118 (lv_at hl 2 rfl) ?_
          refine lv_icmp_eq (tgt := 136) hx hb dX3_order_120 (by decide) (fun c_38 => ?_) (fun c_38 => ?_)
          · refine lv_iload hx hb dX3_order_136 (lv_at hl 3 rfl) ?_
            refine lv_if_eq (tgt := 151) hx hb dX3_order_138 (by decide) (fun c_39 => ?_) (fun c_39 => ?_)
            · refine lv_iconst (v := 0) hx hb dX3_order_151 (by decide) ?_
              have hw : M_order ct dg fi (tf ra.toNatClampNeg) (ff ra.toNatClampNeg) wz (tf rb.toNatClampNeg) (ff rb.toNatClampNeg) = (0, dg, fi) := by unfold M_order; rw [if_pos c_3, if_neg c_19, if_pos c_37, if_pos c_38, if_pos c_39]; try rfl
              exact W.iret hx hb hr (fun t9 ht hW => ⟨⟨_, 0, rfl, rfl, ⟨dg, fi, hw, by rw [ht]; exact hP, hD⟩⟩, hS.F ht⟩) hS.2.2 dX3_order_152
            · refine lv_iload hx hb dX3_order_141 (lv_at hl 1 rfl) ?_
              refine lv_if_eq (tgt := 153) hx hb dX3_order_143 (by decide) (fun c_40 => ?_) (fun c_40 => ?_)
              · exact absurd c_40 c_19
              · refine lv_iload hx hb dX3_order_146 (lv_at hl 0 rfl) ?_
                refine lv_if_eq (tgt := 153) hx hb dX3_order_148 (by decide) (fun c_41 => ?_) (fun c_41 => ?_)
                · refine lv_iload hx hb dX3_order_153 (lv_at hl 1 rfl) ?_
                  refine lv_if_ne (tgt := 163) hx hb dX3_order_155 (by decide) (fun c_42 => ?_) (fun c_42 => ?_)
                  · refine lv_iload hx hb dX3_order_163 (lv_at hl 1 rfl) ?_
                    refine lv_if_eq (tgt := 173) hx hb dX3_order_165 (by decide) (fun c_43 => ?_) (fun c_43 => ?_)
                    · exact absurd c_43 c_19
                    · refine lv_iload hx hb dX3_order_168 (lv_at hl 3 rfl) ?_
                      refine lv_goto (tgt := 176) hx hb dX3_order_170 (by decide) ?_
                      have hw : M_order ct dg fi (tf ra.toNatClampNeg) (ff ra.toNatClampNeg) wz (tf rb.toNatClampNeg) (ff rb.toNatClampNeg) = ((if bI (M_nothing (tf ra.toNatClampNeg) (ff ra.toNatClampNeg)) = 0 then (if bI (M_minus (tf ra.toNatClampNeg)) = 0 then (1 : Int32) else (-1 : Int32)) else (0 : Int32)), dg, fi) := by unfold M_order; rw [if_pos c_3, if_neg c_19, if_pos c_37, if_pos c_38, if_neg c_39]; try rfl
                      exact W.iret hx hb hr (fun t9 ht hW => ⟨⟨_, (if bI (M_nothing (tf ra.toNatClampNeg) (ff ra.toNatClampNeg)) = 0 then (if bI (M_minus (tf ra.toNatClampNeg)) = 0 then (1 : Int32) else (-1 : Int32)) else (0 : Int32)), rfl, rfl, ⟨dg, fi, hw, by rw [ht]; exact hP, hD⟩⟩, hS.F ht⟩) hS.2.2 dX3_order_176
                  · exact absurd c_42 c_19
                · exact absurd c_37 c_41
          · refine lv_iload hx hb dX3_order_123 (lv_at hl 3 rfl) ?_
            refine lv_iload hx hb dX3_order_125 (lv_at hl 2 rfl) ?_
            refine q_cut (v := (if (if bI (M_nothing (tf rb.toNatClampNeg) (ff rb.toNatClampNeg)) = 0 then (if bI (M_minus (tf rb.toNatClampNeg)) = 0 then (1 : Int32) else (-1 : Int32)) else (0 : Int32)) ≤ (if bI (M_nothing (tf ra.toNatClampNeg) (ff ra.toNatClampNeg)) = 0 then (if bI (M_minus (tf ra.toNatClampNeg)) = 0 then (1 : Int32) else (-1 : Int32)) else (0 : Int32)) then (1 : Int32) else (-1 : Int32))) (pcJ := 135) (rest := []) (fun J => ?_) ?_
            · refine lv_icmp_ge (tgt := 134) hx hb dX3_order_127 (by decide) (fun c_44 => ?_) (fun c_44 => ?_)
              · refine lv_iconst (v := 1) hx hb dX3_order_134 (by decide) ?_
                exact J _ (by rw [if_pos c_44]; try rfl)
              · refine lv_iconst (v := (-1)) hx hb dX3_order_130 (by decide) ?_
                refine lv_goto (tgt := 135) hx hb dX3_order_131 (by decide) ?_
                exact J _ (by rw [if_neg c_44]; try rfl)
            have hw : M_order ct dg fi (tf ra.toNatClampNeg) (ff ra.toNatClampNeg) wz (tf rb.toNatClampNeg) (ff rb.toNatClampNeg) = ((if (if bI (M_nothing (tf rb.toNatClampNeg) (ff rb.toNatClampNeg)) = 0 then (if bI (M_minus (tf rb.toNatClampNeg)) = 0 then (1 : Int32) else (-1 : Int32)) else (0 : Int32)) ≤ (if bI (M_nothing (tf ra.toNatClampNeg) (ff ra.toNatClampNeg)) = 0 then (if bI (M_minus (tf ra.toNatClampNeg)) = 0 then (1 : Int32) else (-1 : Int32)) else (0 : Int32)) then (1 : Int32) else (-1 : Int32)), dg, fi) := by unfold M_order; rw [if_pos c_3, if_neg c_19, if_pos c_37, if_neg c_38]; try rfl
            exact W.iret hx hb hr (fun t9 ht hW => ⟨⟨_, (if (if bI (M_nothing (tf rb.toNatClampNeg) (ff rb.toNatClampNeg)) = 0 then (if bI (M_minus (tf rb.toNatClampNeg)) = 0 then (1 : Int32) else (-1 : Int32)) else (0 : Int32)) ≤ (if bI (M_nothing (tf ra.toNatClampNeg) (ff ra.toNatClampNeg)) = 0 then (if bI (M_minus (tf ra.toNatClampNeg)) = 0 then (1 : Int32) else (-1 : Int32)) else (0 : Int32)) then (1 : Int32) else (-1 : Int32)), rfl, rfl, ⟨dg, fi, hw, by rw [ht]; exact hP, hD⟩⟩, hS.F ht⟩) hS.2.2 dX3_order_135
        · refine lv_aload_n hx hb dX3_order_104 rfl (lv_at hl 4 rfl) ?_
          refine lv_sipush (v := 4096) hx hb dX3_order_105 (by decide) ?_
          refine vp_callSi (va_cr (va_runV (As := [.int 4096]) (rest := []) ⟨hx, hb, hml, hown, hts⟩ (c_X3_masked l D h q1 q2 cA cB cd ct tf ff td an qb pa aT aF dg fi lo 4096 (by decide)) (cwV 1 hts gX3_order_X3_masked rfl rfl rfl kV_X3_masked ⟨Nat.le_of_ble_eq_true rfl, Nat.le_of_ble_eq_true rfl⟩) ⟨PB.blind, va_recv hK hP (ci := 2) (q0 := 0) rfl rfl, PB.pre hK hP⟩ rfl rfl hl.1 rfl (lv_room (Nat.le_of_ble_eq_true rfl)) dX3_order_108 ⟨Nat.le_of_ble_eq_true rfl, Nat.le_of_ble_eq_true rfl⟩)) (fun r9 e9 => ?_)
          rw [e9]
          refine lv_if_ne (tgt := 116) hx hb dX3_order_111 (by decide) (fun c_45 => ?_) (fun c_45 => ?_)
          · refine lv_iload hx hb dX3_order_116 (lv_at hl 3 rfl) ?_
            refine lv_iload hx hb dX3_order_118 (lv_at hl 2 rfl) ?_
            refine lv_icmp_eq (tgt := 136) hx hb dX3_order_120 (by decide) (fun c_46 => ?_) (fun c_46 => ?_)
            · refine lv_iload hx hb dX3_order_136 (lv_at hl 3 rfl) ?_
              refine lv_if_eq (tgt := 151) hx hb dX3_order_138 (by decide) (fun c_47 => ?_) (fun c_47 => ?_)
              · refine lv_iconst (v := 0) hx hb dX3_order_151 (by decide) ?_
                have hw : M_order ct dg fi (tf ra.toNatClampNeg) (ff ra.toNatClampNeg) wz (tf rb.toNatClampNeg) (ff rb.toNatClampNeg) = (0, dg, fi) := by unfold M_order; rw [if_pos c_3, if_neg c_19, if_neg c_37, if_neg c_45, if_pos c_46, if_pos c_47]; try rfl
                exact W.iret hx hb hr (fun t9 ht hW => ⟨⟨_, 0, rfl, rfl, ⟨dg, fi, hw, by rw [ht]; exact hP, hD⟩⟩, hS.F ht⟩) hS.2.2 dX3_order_152
              · refine lv_iload hx hb dX3_order_141 (lv_at hl 1 rfl) ?_
                refine lv_if_eq (tgt := 153) hx hb dX3_order_143 (by decide) (fun c_48 => ?_) (fun c_48 => ?_)
                · exact absurd c_48 c_19
                · refine lv_iload hx hb dX3_order_146 (lv_at hl 0 rfl) ?_
                  refine lv_if_eq (tgt := 153) hx hb dX3_order_148 (by decide) (fun c_49 => ?_) (fun c_49 => ?_)
                  · exact absurd c_49 c_37
                  · refine lv_iconst (v := 0) hx hb dX3_order_151 (by decide) ?_
                    have hw : M_order ct dg fi (tf ra.toNatClampNeg) (ff ra.toNatClampNeg) wz (tf rb.toNatClampNeg) (ff rb.toNatClampNeg) = (0, dg, fi) := by unfold M_order; rw [if_pos c_3, if_neg c_19, if_neg c_37, if_neg c_45, if_pos c_46, if_neg c_47]; try rfl
                    exact W.iret hx hb hr (fun t9 ht hW => ⟨⟨_, 0, rfl, rfl, ⟨dg, fi, hw, by rw [ht]; exact hP, hD⟩⟩, hS.F ht⟩) hS.2.2 dX3_order_152
            · refine lv_iload hx hb dX3_order_123 (lv_at hl 3 rfl) ?_
              refine lv_iload hx hb dX3_order_125 (lv_at hl 2 rfl) ?_
              refine q_cut (v := (if (if bI (M_nothing (tf rb.toNatClampNeg) (ff rb.toNatClampNeg)) = 0 then (if bI (M_minus (tf rb.toNatClampNeg)) = 0 then (1 : Int32) else (-1 : Int32)) else (0 : Int32)) ≤ (if bI (M_nothing (tf ra.toNatClampNeg) (ff ra.toNatClampNeg)) = 0 then (if bI (M_minus (tf ra.toNatClampNeg)) = 0 then (1 : Int32) else (-1 : Int32)) else (0 : Int32)) then (1 : Int32) else (-1 : Int32))) (pcJ := 135) (rest := []) (fun J => ?_) ?_
              · refine lv_icmp_ge (tgt := 134) hx hb dX3_order_127 (by decide) (fun c_50 => ?_) (fun c_50 => ?_)
                · refine lv_iconst (v := 1) hx hb dX3_order_134 (by decide) ?_
                  exact J _ (by rw [if_pos c_50]; try rfl)
                · refine lv_iconst (v := (-1)) hx hb dX3_order_130 (by decide) ?_
                  refine lv_goto (tgt := 135) hx hb dX3_order_131 (by decide) ?_
                  exact J _ (by rw [if_neg c_50]; try rfl)
              have hw : M_order ct dg fi (tf ra.toNatClampNeg) (ff ra.toNatClampNeg) wz (tf rb.toNatClampNeg) (ff rb.toNatClampNeg) = ((if (if bI (M_nothing (tf rb.toNatClampNeg) (ff rb.toNatClampNeg)) = 0 then (if bI (M_minus (tf rb.toNatClampNeg)) = 0 then (1 : Int32) else (-1 : Int32)) else (0 : Int32)) ≤ (if bI (M_nothing (tf ra.toNatClampNeg) (ff ra.toNatClampNeg)) = 0 then (if bI (M_minus (tf ra.toNatClampNeg)) = 0 then (1 : Int32) else (-1 : Int32)) else (0 : Int32)) then (1 : Int32) else (-1 : Int32)), dg, fi) := by unfold M_order; rw [if_pos c_3, if_neg c_19, if_neg c_37, if_neg c_45, if_neg c_46]; try rfl
              exact W.iret hx hb hr (fun t9 ht hW => ⟨⟨_, (if (if bI (M_nothing (tf rb.toNatClampNeg) (ff rb.toNatClampNeg)) = 0 then (if bI (M_minus (tf rb.toNatClampNeg)) = 0 then (1 : Int32) else (-1 : Int32)) else (0 : Int32)) ≤ (if bI (M_nothing (tf ra.toNatClampNeg) (ff ra.toNatClampNeg)) = 0 then (if bI (M_minus (tf ra.toNatClampNeg)) = 0 then (1 : Int32) else (-1 : Int32)) else (0 : Int32)) then (1 : Int32) else (-1 : Int32)), rfl, rfl, ⟨dg, fi, hw, by rw [ht]; exact hP, hD⟩⟩, hS.F ht⟩) hS.2.2 dX3_order_135
          · refine lv_iconst (v := 0) hx hb dX3_order_114 (by decide) ?_
            have hw : M_order ct dg fi (tf ra.toNatClampNeg) (ff ra.toNatClampNeg) wz (tf rb.toNatClampNeg) (ff rb.toNatClampNeg) = (0, dg, fi) := by unfold M_order; rw [if_pos c_3, if_neg c_19, if_neg c_37, if_pos c_45]; try rfl
            exact W.iret hx hb hr (fun t9 ht hW => ⟨⟨_, 0, rfl, rfl, ⟨dg, fi, hw, by rw [ht]; exact hP, hD⟩⟩, hS.F ht⟩) hS.2.2 dX3_order_115
def M_compared (ct : Int32) (aT : Int32) (aF : Int64) (dg : Int64) (fi : Int32) (ta : Int32) (fa : Int64) (wz : Bool) (rb : Int32) (tb : Int32) (fb : Int64) (t0 : Int32) (f0 : Int64) : Int32 × Int32 × Bool × Int32 × Int64 × Int64 × Int32 :=
  tup2 (M_begin) (fun otd_1 oan_2 =>
    if bI wz = 0 then (tup5 ((M_goesOn ct otd_1 oan_2 aT aF ta fa rb tb fb (if bI (M_masked ct 4096) = 0 then (if bI (if (M_kind ta fa) = 4 then true else false) = bI (if (M_kind tb fb) = 4 then true else false) then true else false) else true))) (fun v_25 otd_26 oan_27 oaT_28 oaF_29 =>
        if bI v_25 = 0 then ((if bI oan_27 = 0 then (3 : Int32) else (2 : Int32)), otd_26, oan_27, oaT_28, oaF_29, dg, fi)
        else (tup3 ((M_order ct dg fi ta fa wz tb fb)) (fun v_32 odg_33 ofi_34 =>
            (v_32, otd_26, true, oaT_28, oaF_29, odg_33, ofi_34)))))
    else (tup5 ((M_goesOn ct otd_1 oan_2 aT aF ta fa (-1) t0 f0 (if bI (M_masked ct 4096) = 0 then (if bI (if (M_kind ta fa) = 4 then true else false) = 0 then true else false) else true))) (fun v_9 otd_10 oan_11 oaT_12 oaF_13 =>
        if bI v_9 = 0 then ((if bI oan_11 = 0 then (3 : Int32) else (2 : Int32)), otd_10, oan_11, oaT_12, oaF_13, dg, fi)
        else (tup3 ((M_order ct dg fi ta fa wz tb fb)) (fun v_16 odg_17 ofi_18 =>
            (v_16, otd_10, true, oaT_12, oaF_13, odg_17, ofi_18))))))
theorem kS_X3_compared : yX3_compared.cls ≠ "java/lang/invoke/MethodHandle" ∧ yX3_compared.cls ≠ "java/lang/invoke/VarHandle" ∧ (parseMethodDescriptor yX3_compared.desc).map (fun d => d.parameters.length) = some 3 := by decide +kernel
theorem kV_X3_compared : yX3_compared.cls = RX3 ∧ yX3_compared.cls ≠ "java/lang/invoke/MethodHandle" ∧ yX3_compared.cls ≠ "java/lang/invoke/VarHandle" ∧ (parseMethodDescriptor yX3_compared.desc).map (fun d => d.parameters.length) = some 3 := ⟨rfl, kS_X3_compared⟩
set_option maxHeartbeats 4000000 in
set_option maxRecDepth 100000 in
theorem c_X3_compared (l : Launch) (D : va_G) (h : Nat) (q1 : Nat) (q2 : Nat) (cA : ClassId) (cB : ClassId) (cd : Int32) (ct : Int32) (tf : Nat → Int32) (ff : Nat → Int64) (td : Int32) (an : Bool) (qb : Int32) (pa : Bool) (aT : Int32) (aF : Int64) (dg : Int64) (fi : Int32) (lo : Bool) (ra : Int32) (wz : Bool) (rb : Int32) (sz : Nat) (hra : vp_in ra 8) (hrb : bI wz = 0 → vp_in rb 8) : Met l yX3_compared wsX3_compared ({ frames := 3, cells := 0, slots := 0, locals := 74 } : Room) (va_Pc [.ref h, .int ra, .int (bI wz), .int rb] (MMB D (tRS cA cB) (cMd h q1 q2 cA cB cd ct tf ff td an qb pa aT aF dg fi lo) sz)) (va_Qi (fun (r u : Int32) => r = u) (fun u t => ∃ (w_td : Int32) (w_an : Bool) (w_aT : Int32) (w_aF : Int64) (w_dg : Int64) (w_fi : Int32), M_compared ct aT aF dg fi (tf ra.toNatClampNeg) (ff ra.toNatClampNeg) wz rb (tf rb.toNatClampNeg) (ff rb.toNatClampNeg) (tf (-1 : Int32).toNatClampNeg) (ff (-1 : Int32).toNatClampNeg) = (u, w_td, w_an, w_aT, w_aF, w_dg, w_fi) ∧ va_P D vwCl (cMd h q1 q2 cA cB cd ct tf ff w_td w_an qb pa w_aT w_aF w_dg w_fi lo) t.heap ∧ va_D (va_A (cMd h q1 q2 cA cB cd ct tf ff td an qb pa aT aF dg fi lo) sz) (cMd h q1 q2 cA cB cd ct tf ff w_td w_an qb pa w_aT w_aF w_dg w_fi lo)) (va_A (cMd h q1 q2 cA cB cd ct tf ff td an qb pa aT aF dg fi lo) sz)) 0 0 (va_A (cMd h q1 q2 cA cB cd ct tf ff td an qb pa aT aF dg fi lo) sz) := by
  refine Met.ofW (cc := cX3_compared) (maxL := 6) (ret := (some .int)) (by decide) rfl ?_
  intro p e s m args below meth c s₁ B hml hv
  obtain ⟨rfl, hsz, hP, hK, hD0⟩ := hv
  have hx := B.exec
  have hb := B.bytes
  have hr := B.returns
  have hts := atoms_spec (ws := wsX3_compared) B.pre
  have hown : s.vm.findClass RX3 = some m.cls := findClass_of_methodNamed B.named
  have hlocks := B.notSynchronized
  have w_1 := hts (.fieldLink RX3 68 "RealStepsModel" "answered" "Z") (by decide +kernel)
  have in_X3 : ∀ w ∈ wsX30, w ∈ wsX3_compared := by decide +kernel
  subst hsz
  have hD := hD0.self (sz := s.heap.size)
  generalize hAe : va_A (cMd h q1 q2 cA cB cd ct tf ff td an qb pa aT aF dg fi lo) s.heap.size = A at hD ⊢
  have hA : ∀ q : Nat, s.heap.size ≤ q → A q := fun q h => by rw [← hAe]; exact Or.inr h
  have hS : va_S A s.heap s.heap [] := va_S.rf
  have hP : va_P D vwCl (cMd h q1 q2 cA cB cd ct tf ff td an qb pa aT aF dg fi lo) s.heap := hP
  have hl := lv_entry ([.ref h, .int ra, .int (bI wz), .int rb]) (n := 6) (Nat.le_of_ble_eq_true rfl)
  rw [lg_entry_eq]
  generalize (lg_sl ([.ref h, .int ra, .int (bI wz), .int rb]) ++ List.replicate (6 - (lg_sl ([.ref h, .int ra, .int (bI wz), .int rb])).length) Slot.unset).toArray = ls at hl ⊢
  have hl : lv_has ls 6 [(0, .ref h), (1, .int ra), (2, .int (bI wz)), (3, .int rb)] := hl
  refine lv_aload_n hx hb dX3_compared_0 rfl (lv_at hl 0 rfl) ?_
  have hFc := va_free (wc := cMd h q1 q2 cA cB cd ct tf ff td an qb pa aT aF dg fi lo) hD hS hA [0, 1, 2] rfl
  refine va_callv (va_runV (As := []) (rest := []) ⟨hx, hb, hml, hown, hts⟩ (c_X3_begin l D h q1 q2 cA cB cd ct tf ff td an qb pa aT aF dg fi lo s.heap.size) (cwV 0 hts gX3_compared_X3_begin rfl rfl rfl kV_X3_begin ⟨Nat.le_of_ble_eq_true rfl, Nat.le_of_ble_eq_true rfl⟩) ⟨MMB.blind, va_recv hK hP (ci := 2) (q0 := 0) rfl rfl, MMB.pre hK hP hD⟩ rfl rfl hl.1 rfl (lv_room (Nat.le_of_ble_eq_true rfl)) dX3_compared_1 ⟨Nat.le_of_ble_eq_true rfl, Nat.le_of_ble_eq_true rfl⟩) hS (fun q _ h9 => hFc q h9) hFc (fun u9 t9 H locs ht hvm hw hB hz1 hk1 hS => ?_)
  obtain ⟨otd_1, oan_2, e_3, hP, hD9⟩ := hB
  rw [ht] at hP
  have hD : va_D A (cMd h q1 q2 cA cB cd ct tf ff otd_1 oan_2 qb pa aT aF dg fi lo) := hD9.weaken (fun _ _ _ h => hFc _ h)
  refine lv_aload_n hx hb dX3_compared_4 rfl (lv_at hl 0 rfl) ?_
  refine lv_iload_n hx hb dX3_compared_5 rfl (lv_at hl 1 rfl) ?_
  refine vp_callSi (va_cr (va_runV (As := [.int ra]) (rest := []) ⟨hx, hb, hml, hown, hts⟩ (c_X3_kind l D h q1 q2 cA cB cd ct tf ff otd_1 oan_2 qb pa aT aF dg fi lo ra hra) (cwV 1 hts gX3_compared_X3_kind rfl rfl rfl kV_X3_kind ⟨Nat.le_of_ble_eq_true rfl, Nat.le_of_ble_eq_true rfl⟩) ⟨PB.blind, va_recv hK hP (ci := 2) (q0 := 0) rfl rfl, PB.pre hK hP⟩ rfl rfl hl.1 rfl (lv_room (Nat.le_of_ble_eq_true rfl)) dX3_compared_6 ⟨Nat.le_of_ble_eq_true rfl, Nat.le_of_ble_eq_true rfl⟩)) (fun r9 e9 => ?_)
  rw [e9]
  refine lv_iconst (v := 4) hx hb dX3_compared_9 (by decide) ?_
  refine q_cut (v := bI (if (M_kind (tf ra.toNatClampNeg) (ff ra.toNatClampNeg)) = 4 then true else false)) (pcJ := 18) (rest := []) (fun J => ?_) ?_
  · refine lv_icmp_ne (tgt := 17) hx hb dX3_compared_10 (by decide) (fun c_4 => ?_) (fun c_4 => ?_)
    · refine lv_iconst (v := 0) hx hb dX3_compared_17 (by decide) ?_
      exact J _ (by rw [if_neg c_4]; try rfl)
    · refine lv_iconst (v := 1) hx hb dX3_compared_13 (by decide) ?_
      refine lv_goto (tgt := 18) hx hb dX3_compared_14 (by decide) ?_
      exact J _ (by rw [if_pos c_4]; try rfl)
  refine lv_istore (lv' := [(4, .int (bI (if (M_kind (tf ra.toNatClampNeg) (ff ra.toNatClampNeg)) = 4 then true else false))), (0, .ref h), (1, .int ra), (2, .int (bI wz)), (3, .int rb)]) hx hb dX3_compared_18 hl (by decide) rfl (fun ls hl => ?_)
  refine lv_iload_n hx hb dX3_compared_20 rfl (lv_at hl 3 rfl) ?_
  refine lv_if_ne (tgt := 37) hx hb dX3_compared_21 (by decide) (fun c_5 => ?_) (fun c_5 => ?_)
  · refine lv_iconst (v := 0) hx hb dX3_compared_37 (by decide) ?_
    refine lv_istore (lv' := [(5, .int 0), (4, .int (bI (if (M_kind (tf ra.toNatClampNeg) (ff ra.toNatClampNeg)) = 4 then true else false))), (0, .ref h), (1, .int ra), (2, .int (bI wz)), (3, .int rb)]) hx hb dX3_compared_38 hl (by decide) rfl (fun ls hl => ?_)
    refine lv_aload_n hx hb dX3_compared_40 rfl (lv_at hl 2 rfl) ?_
    refine lv_iload_n hx hb dX3_compared_41 rfl (lv_at hl 3 rfl) ?_
    refine lv_iload_n hx hb dX3_compared_42 rfl (lv_at hl 4 rfl) ?_
    refine lv_if_eq (tgt := 50) hx hb dX3_compared_43 (by decide) (fun c_6 => ?_) (fun c_6 => ?_)
    · exact absurd c_6 c_5
    · refine lv_iconst (v := (-1)) hx hb dX3_compared_46 (by decide) ?_
      refine lv_goto (tgt := 51) hx hb dX3_compared_47 (by decide) ?_
      refine lv_aload_n hx hb dX3_compared_51 rfl (lv_at hl 2 rfl) ?_
      refine lv_sipush (v := 4096) hx hb dX3_compared_52 (by decide) ?_
      refine vp_callSi (va_cr (va_runV (As := [.int 4096]) (rest := [.int (-1), .int ra, .ref h]) ⟨hx, hb, hml, hown, hts⟩ (c_X3_masked l D h q1 q2 cA cB cd ct tf ff otd_1 oan_2 qb pa aT aF dg fi lo 4096 (by decide)) (cwV 1 hts gX3_compared_X3_masked rfl rfl rfl kV_X3_masked ⟨Nat.le_of_ble_eq_true rfl, Nat.le_of_ble_eq_true rfl⟩) ⟨PB.blind, va_recv hK hP (ci := 2) (q0 := 0) rfl rfl, PB.pre hK hP⟩ rfl rfl hl.1 rfl (lv_room (Nat.le_of_ble_eq_true rfl)) dX3_compared_55 ⟨Nat.le_of_ble_eq_true rfl, Nat.le_of_ble_eq_true rfl⟩)) (fun r9 e9 => ?_)
      rw [e9]
      refine q_cut (v := bI (if bI (M_masked ct 4096) = 0 then (if bI (if (M_kind (tf ra.toNatClampNeg) (ff ra.toNatClampNeg)) = 4 then true else false) = 0 then true else false) else true)) (pcJ := 73) (rest := [.int (-1), .int ra, .ref h]) (fun J => ?_) ?_
      · refine lv_if_ne (tgt := 68) hx hb dX3_compared_58 (by decide) (fun c_7 => ?_) (fun c_7 => ?_)
        · refine lv_iconst (v := 1) hx hb dX3_compared_68 (by decide) ?_
          refine lv_goto (tgt := 73) hx hb dX3_compared_69 (by decide) ?_
          exact J _ (by rw [if_neg c_7]; try rfl)
        · refine lv_iload hx hb dX3_compared_61 (lv_at hl 1 rfl) ?_
          refine lv_iload hx hb dX3_compared_63 (lv_at hl 0 rfl) ?_
          refine lv_icmp_ne (tgt := 72) hx hb dX3_compared_65 (by decide) (fun c_8 => ?_) (fun c_8 => ?_)
          · refine lv_iconst (v := 0) hx hb dX3_compared_72 (by decide) ?_
            exact J _ (by rw [if_pos c_7, if_neg c_8]; try rfl)
          · refine lv_iconst (v := 1) hx hb dX3_compared_68 (by decide) ?_
            refine lv_goto (tgt := 73) hx hb dX3_compared_69 (by decide) ?_
            exact J _ (by rw [if_pos c_7, if_pos c_8]; try rfl)
      have hFc := va_free (wc := cMd h q1 q2 cA cB cd ct tf ff otd_1 oan_2 qb pa aT aF dg fi lo) hD hS hA [0, 1, 2] rfl
      refine va_calli (va_runV (As := [.int ra, .int (-1), .int (bI (if bI (M_masked ct 4096) = 0 then (if bI (if (M_kind (tf ra.toNatClampNeg) (ff ra.toNatClampNeg)) = 4 then true else false) = 0 then true else false) else true))]) (rest := []) ⟨hx, hb, hml, hown, hts⟩ (c_X3_goesOn l D h q1 q2 cA cB cd ct tf ff otd_1 oan_2 qb pa aT aF dg fi lo ra (-1) (if bI (M_masked ct 4096) = 0 then (if bI (if (M_kind (tf ra.toNatClampNeg) (ff ra.toNatClampNeg)) = 4 then true else false) = 0 then true else false) else true) H.size hra (fun h => absurd (by decide : ((-1) : Int32) < 0) h)) (cwV 3 hts gX3_compared_X3_goesOn rfl rfl rfl kV_X3_goesOn ⟨Nat.le_of_ble_eq_true rfl, Nat.le_of_ble_eq_true rfl⟩) ⟨MMB.blind, va_recv hK hP (ci := 2) (q0 := 0) rfl rfl, MMB.pre hK hP hD⟩ rfl rfl hl.1 rfl (lv_room (Nat.le_of_ble_eq_true rfl)) dX3_compared_73 ⟨Nat.le_of_ble_eq_true rfl, Nat.le_of_ble_eq_true rfl⟩) hS (fun q _ h9 => hFc q h9) hFc (fun r9 v_9 t9 H locs ht hvm hw hB hz1 hk1 hS => ?_)
      obtain rfl := hw
      obtain ⟨otd_10, oan_11, oaT_12, oaF_13, e_14, hP, hD9⟩ := hB
      rw [ht] at hP
      have hD : va_D A (cMd h q1 q2 cA cB cd ct tf ff otd_10 oan_11 qb pa oaT_12 oaF_13 dg fi lo) := hD9.weaken (fun _ _ _ h => hFc _ h)
      refine lv_if_ne (tgt := 92) hx hb dX3_compared_76 (by decide) (fun c_15 => ?_) (fun c_15 => ?_)
      · refine lv_aload_n hx hb dX3_compared_92 rfl (lv_at hl 2 rfl) ?_
        refine lv_iconst (v := 1) hx hb dX3_compared_93 (by decide) ?_
        refine va_put (v := .int 1) (ty := .boolean) (C := RX3) (T := TX3) (N := 13) hx hb hts in_X3 tyX3 tyX3_ok nmX3 hown hK hP hD hS 0 rfl rfl 5 (by decide) w_1 (fun _ h9 => h9) rfl (tyX3_ok 5 (by decide)) rfl rfl (Nat.le_of_ble_eq_true rfl) dX3_compared_94 (fun H locs hP hD hS => ?_)
        have hP : va_P D vwCl (cMd h q1 q2 cA cB cd ct tf ff otd_10 true qb pa oaT_12 oaF_13 dg fi lo) H := hP
        have hD : va_D A (cMd h q1 q2 cA cB cd ct tf ff otd_10 true qb pa oaT_12 oaF_13 dg fi lo) := hD
        refine lv_aload_n hx hb dX3_compared_97 rfl (lv_at hl 2 rfl) ?_
        refine lv_iload_n hx hb dX3_compared_98 rfl (lv_at hl 3 rfl) ?_
        refine lv_iload_n hx hb dX3_compared_99 rfl (lv_at hl 4 rfl) ?_
        refine lv_iload_n hx hb dX3_compared_100 rfl (lv_at hl 5 rfl) ?_
        have hFc := va_free (wc := cMd h q1 q2 cA cB cd ct tf ff otd_10 true qb pa oaT_12 oaF_13 dg fi lo) hD hS hA [0, 1, 2] rfl
        refine va_calli (va_runV (As := [.int ra, .int (bI wz), .int rb]) (rest := []) ⟨hx, hb, hml, hown, hts⟩ (c_X3_order l D h q1 q2 cA cB cd ct tf ff otd_10 true qb pa oaT_12 oaF_13 dg fi lo ra wz rb H.size hra (fun h => absurd h c_5)) (cwV 3 hts gX3_compared_X3_order rfl rfl rfl kV_X3_order ⟨Nat.le_of_ble_eq_true rfl, Nat.le_of_ble_eq_true rfl⟩) ⟨MMB.blind, va_recv hK hP (ci := 2) (q0 := 0) rfl rfl, MMB.pre hK hP hD⟩ rfl rfl hl.1 rfl (lv_room (Nat.le_of_ble_eq_true rfl)) dX3_compared_101 ⟨Nat.le_of_ble_eq_true rfl, Nat.le_of_ble_eq_true rfl⟩) hS (fun q _ h9 => hFc q h9) hFc (fun v_16 u9 t9 H locs ht hvm hw hB hz1 hk1 hS => ?_)
        obtain rfl := hw
        obtain ⟨odg_17, ofi_18, e_19, hP, hD9⟩ := hB
        rw [ht] at hP
        have hD : va_D A (cMd h q1 q2 cA cB cd ct tf ff otd_10 true qb pa oaT_12 oaF_13 odg_17 ofi_18 lo) := hD9.weaken (fun _ _ _ h => hFc _ h)
        have hw : M_compared ct aT aF dg fi (tf ra.toNatClampNeg) (ff ra.toNatClampNeg) wz rb (tf rb.toNatClampNeg) (ff rb.toNatClampNeg) (tf (-1 : Int32).toNatClampNeg) (ff (-1 : Int32).toNatClampNeg) = (v_16, otd_10, true, oaT_12, oaF_13, odg_17, ofi_18) := by unfold M_compared; rw [tup2_e e_3, if_neg c_5, tup5_e e_14, if_neg c_15, tup3_e e_19]; try rfl
        exact W.iret hx hb hr (fun t9 ht hW => ⟨⟨_, v_16, rfl, rfl, ⟨otd_10, true, oaT_12, oaF_13, odg_17, ofi_18, hw, by rw [ht]; exact hP, hD⟩⟩, hS.F ht⟩) hS.2.2 dX3_compared_104
      · refine lv_aload_n hx hb dX3_compared_79 rfl (lv_at hl 2 rfl) ?_
        refine va_get (v := .int (bI oan_11)) (C := RX3) (T := TX3) (N := 13) hx hb hts in_X3 hown hK hP 0 rfl rfl 5 (by decide) w_1 (fun _ h9 => h9) rfl dX3_compared_80 ?_
        refine q_cut (v := (if bI oan_11 = 0 then (3 : Int32) else (2 : Int32))) (pcJ := 91) (rest := []) (fun J => ?_) ?_
        · refine lv_if_eq (tgt := 90) hx hb dX3_compared_83 (by decide) (fun c_20 => ?_) (fun c_20 => ?_)
          · refine lv_iconst (v := 3) hx hb dX3_compared_90 (by decide) ?_
            exact J _ (by rw [if_pos c_20]; try rfl)
          · refine lv_iconst (v := 2) hx hb dX3_compared_86 (by decide) ?_
            refine lv_goto (tgt := 91) hx hb dX3_compared_87 (by decide) ?_
            exact J _ (by rw [if_neg c_20]; try rfl)
        have hw : M_compared ct aT aF dg fi (tf ra.toNatClampNeg) (ff ra.toNatClampNeg) wz rb (tf rb.toNatClampNeg) (ff rb.toNatClampNeg) (tf (-1 : Int32).toNatClampNeg) (ff (-1 : Int32).toNatClampNeg) = ((if bI oan_11 = 0 then (3 : Int32) else (2 : Int32)), otd_10, oan_11, oaT_12, oaF_13, dg, fi) := by unfold M_compared; rw [tup2_e e_3, if_neg c_5, tup5_e e_14, if_pos c_15]; try rfl
        exact W.iret hx hb hr (fun t9 ht hW => ⟨⟨_, (if bI oan_11 = 0 then (3 : Int32) else (2 : Int32)), rfl, rfl, ⟨otd_10, oan_11, oaT_12, oaF_13, dg, fi, hw, by rw [ht]; exact hP, hD⟩⟩, hS.F ht⟩) hS.2.2 dX3_compared_91
  · refine lv_aload_n hx hb dX3_compared_24 rfl (lv_at hl 1 rfl) ?_
    refine lv_iload_n hx hb dX3_compared_25 rfl (lv_at hl 4 rfl) ?_
    refine vp_callSi (va_cr (va_runV (As := [.int rb]) (rest := []) ⟨hx, hb, hml, hown, hts⟩ (c_X3_kind l D h q1 q2 cA cB cd ct tf ff otd_1 oan_2 qb pa aT aF dg fi lo rb (hrb c_5)) (cwV 1 hts gX3_compared_X3_kind rfl rfl rfl kV_X3_kind ⟨Nat.le_of_ble_eq_true rfl, Nat.le_of_ble_eq_true rfl⟩) ⟨PB.blind, va_recv hK hP (ci := 2) (q0 := 0) rfl rfl, PB.pre hK hP⟩ rfl rfl hl.1 rfl (lv_room (Nat.le_of_ble_eq_true rfl)) dX3_compared_26 ⟨Nat.le_of_ble_eq_true rfl, Nat.le_of_ble_eq_true rfl⟩)) (fun r9 e9 => ?_)
    rw [e9]
    refine lv_iconst (v := 4) hx hb dX3_compared_29 (by decide) ?_
    refine q_cut (v := bI (if (M_kind (tf rb.toNatClampNeg) (ff rb.toNatClampNeg)) = 4 then true else false)) (pcJ := 38) (rest := []) (fun J => ?_) ?_
    · refine lv_icmp_ne (tgt := 37) hx hb dX3_compared_30 (by decide) (fun c_21 => ?_) (fun c_21 => ?_)
      · refine lv_iconst (v := 0) hx hb dX3_compared_37 (by decide) ?_
        exact J _ (by rw [if_neg c_21]; try rfl)
      · refine lv_iconst (v := 1) hx hb dX3_compared_33 (by decide) ?_
        refine lv_goto (tgt := 38) hx hb dX3_compared_34 (by decide) ?_
        exact J _ (by rw [if_pos c_21]; try rfl)
    refine lv_istore (lv' := [(5, .int (bI (if (M_kind (tf rb.toNatClampNeg) (ff rb.toNatClampNeg)) = 4 then true else false))), (4, .int (bI (if (M_kind (tf ra.toNatClampNeg) (ff ra.toNatClampNeg)) = 4 then true else false))), (0, .ref h), (1, .int ra), (2, .int (bI wz)), (3, .int rb)]) hx hb dX3_compared_38 hl (by decide) rfl (fun ls hl => ?_)
    refine lv_aload_n hx hb dX3_compared_40 rfl (lv_at hl 2 rfl) ?_
    refine lv_iload_n hx hb dX3_compared_41 rfl (lv_at hl 3 rfl) ?_
    refine lv_iload_n hx hb dX3_compared_42 rfl (lv_at hl 4 rfl) ?_
    refine lv_if_eq (tgt := 50) hx hb dX3_compared_43 (by decide) (fun c_22 => ?_) (fun c_22 => ?_)
    · refine lv_iload_n hx hb dX3_compared_50 rfl (lv_at hl 5 rfl) ?_
      refine lv_aload_n hx hb dX3_compared_51 rfl (lv_at hl 2 rfl) ?_
      refine lv_sipush (v := 4096) hx hb dX3_compared_52 (by decide) ?_
      refine vp_callSi (va_cr (va_runV (As := [.int 4096]) (rest := [.int rb, .int ra, .ref h]) ⟨hx, hb, hml, hown, hts⟩ (c_X3_masked l D h q1 q2 cA cB cd ct tf ff otd_1 oan_2 qb pa aT aF dg fi lo 4096 (by decide)) (cwV 1 hts gX3_compared_X3_masked rfl rfl rfl kV_X3_masked ⟨Nat.le_of_ble_eq_true rfl, Nat.le_of_ble_eq_true rfl⟩) ⟨PB.blind, va_recv hK hP (ci := 2) (q0 := 0) rfl rfl, PB.pre hK hP⟩ rfl rfl hl.1 rfl (lv_room (Nat.le_of_ble_eq_true rfl)) dX3_compared_55 ⟨Nat.le_of_ble_eq_true rfl, Nat.le_of_ble_eq_true rfl⟩)) (fun r9 e9 => ?_)
      rw [e9]
      refine q_cut (v := bI (if bI (M_masked ct 4096) = 0 then (if bI (if (M_kind (tf ra.toNatClampNeg) (ff ra.toNatClampNeg)) = 4 then true else false) = bI (if (M_kind (tf rb.toNatClampNeg) (ff rb.toNatClampNeg)) = 4 then true else false) then true else false) else true)) (pcJ := 73) (rest := [.int rb, .int ra, .ref h]) (fun J => ?_) ?_
      · refine lv_if_ne (tgt := 68) hx hb dX3_compared_58 (by decide) (fun c_23 => ?_) (fun c_23 => ?_)
        · refine lv_iconst (v := 1) hx hb dX3_compared_68 (by decide) ?_
          refine lv_goto (tgt := 73) hx hb dX3_compared_69 (by decide) ?_
          exact J _ (by rw [if_neg c_23]; try rfl)
        · refine lv_iload hx hb dX3_compared_61 (lv_at hl 1 rfl) ?_
          refine lv_iload hx hb dX3_compared_63 (lv_at hl 0 rfl) ?_
          refine lv_icmp_ne (tgt := 72) hx hb dX3_compared_65 (by decide) (fun c_24 => ?_) (fun c_24 => ?_)
          · refine lv_iconst (v := 0) hx hb dX3_compared_72 (by decide) ?_
            exact J _ (by rw [if_pos c_23, if_neg c_24]; try rfl)
          · refine lv_iconst (v := 1) hx hb dX3_compared_68 (by decide) ?_
            refine lv_goto (tgt := 73) hx hb dX3_compared_69 (by decide) ?_
            exact J _ (by rw [if_pos c_23, if_pos c_24]; try rfl)
      have hFc := va_free (wc := cMd h q1 q2 cA cB cd ct tf ff otd_1 oan_2 qb pa aT aF dg fi lo) hD hS hA [0, 1, 2] rfl
      refine va_calli (va_runV (As := [.int ra, .int rb, .int (bI (if bI (M_masked ct 4096) = 0 then (if bI (if (M_kind (tf ra.toNatClampNeg) (ff ra.toNatClampNeg)) = 4 then true else false) = bI (if (M_kind (tf rb.toNatClampNeg) (ff rb.toNatClampNeg)) = 4 then true else false) then true else false) else true))]) (rest := []) ⟨hx, hb, hml, hown, hts⟩ (c_X3_goesOn l D h q1 q2 cA cB cd ct tf ff otd_1 oan_2 qb pa aT aF dg fi lo ra rb (if bI (M_masked ct 4096) = 0 then (if bI (if (M_kind (tf ra.toNatClampNeg) (ff ra.toNatClampNeg)) = 4 then true else false) = bI (if (M_kind (tf rb.toNatClampNeg) (ff rb.toNatClampNeg)) = 4 then true else false) then true else false) else true) H.size hra (fun _ => (hrb c_5))) (cwV 3 hts gX3_compared_X3_goesOn rfl rfl rfl kV_X3_goesOn ⟨Nat.le_of_ble_eq_true rfl, Nat.le_of_ble_eq_true rfl⟩) ⟨MMB.blind, va_recv hK hP (ci := 2) (q0 := 0) rfl rfl, MMB.pre hK hP hD⟩ rfl rfl hl.1 rfl (lv_room (Nat.le_of_ble_eq_true rfl)) dX3_compared_73 ⟨Nat.le_of_ble_eq_true rfl, Nat.le_of_ble_eq_true rfl⟩) hS (fun q _ h9 => hFc q h9) hFc (fun r9 v_25 t9 H locs ht hvm hw hB hz1 hk1 hS => ?_)
      obtain rfl := hw
      obtain ⟨otd_26, oan_27, oaT_28, oaF_29, e_30, hP, hD9⟩ := hB
      rw [ht] at hP
      have hD : va_D A (cMd h q1 q2 cA cB cd ct tf ff otd_26 oan_27 qb pa oaT_28 oaF_29 dg fi lo) := hD9.weaken (fun _ _ _ h => hFc _ h)
      refine lv_if_ne (tgt := 92) hx hb dX3_compared_76 (by decide) (fun c_31 => ?_) (fun c_31 => ?_)
      · refine lv_aload_n hx hb dX3_compared_92 rfl (lv_at hl 2 rfl) ?_
        refine lv_iconst (v := 1) hx hb dX3_compared_93 (by decide) ?_
        refine va_put (v := .int 1) (ty := .boolean) (C := RX3) (T := TX3) (N := 13) hx hb hts in_X3 tyX3 tyX3_ok nmX3 hown hK hP hD hS 0 rfl rfl 5 (by decide) w_1 (fun _ h9 => h9) rfl (tyX3_ok 5 (by decide)) rfl rfl (Nat.le_of_ble_eq_true rfl) dX3_compared_94 (fun H locs hP hD hS => ?_)
        have hP : va_P D vwCl (cMd h q1 q2 cA cB cd ct tf ff otd_26 true qb pa oaT_28 oaF_29 dg fi lo) H := hP
        have hD : va_D A (cMd h q1 q2 cA cB cd ct tf ff otd_26 true qb pa oaT_28 oaF_29 dg fi lo) := hD
        refine lv_aload_n hx hb dX3_compared_97 rfl (lv_at hl 2 rfl) ?_
        refine lv_iload_n hx hb dX3_compared_98 rfl (lv_at hl 3 rfl) ?_
        refine lv_iload_n hx hb dX3_compared_99 rfl (lv_at hl 4 rfl) ?_
        refine lv_iload_n hx hb dX3_compared_100 rfl (lv_at hl 5 rfl) ?_
        have hFc := va_free (wc := cMd h q1 q2 cA cB cd ct tf ff otd_26 true qb pa oaT_28 oaF_29 dg fi lo) hD hS hA [0, 1, 2] rfl
        refine va_calli (va_runV (As := [.int ra, .int (bI wz), .int rb]) (rest := []) ⟨hx, hb, hml, hown, hts⟩ (c_X3_order l D h q1 q2 cA cB cd ct tf ff otd_26 true qb pa oaT_28 oaF_29 dg fi lo ra wz rb H.size hra (fun _ => (hrb c_5))) (cwV 3 hts gX3_compared_X3_order rfl rfl rfl kV_X3_order ⟨Nat.le_of_ble_eq_true rfl, Nat.le_of_ble_eq_true rfl⟩) ⟨MMB.blind, va_recv hK hP (ci := 2) (q0 := 0) rfl rfl, MMB.pre hK hP hD⟩ rfl rfl hl.1 rfl (lv_room (Nat.le_of_ble_eq_true rfl)) dX3_compared_101 ⟨Nat.le_of_ble_eq_true rfl, Nat.le_of_ble_eq_true rfl⟩) hS (fun q _ h9 => hFc q h9) hFc (fun v_32 u9 t9 H locs ht hvm hw hB hz1 hk1 hS => ?_)
        obtain rfl := hw
        obtain ⟨odg_33, ofi_34, e_35, hP, hD9⟩ := hB
        rw [ht] at hP
        have hD : va_D A (cMd h q1 q2 cA cB cd ct tf ff otd_26 true qb pa oaT_28 oaF_29 odg_33 ofi_34 lo) := hD9.weaken (fun _ _ _ h => hFc _ h)
        have hw : M_compared ct aT aF dg fi (tf ra.toNatClampNeg) (ff ra.toNatClampNeg) wz rb (tf rb.toNatClampNeg) (ff rb.toNatClampNeg) (tf (-1 : Int32).toNatClampNeg) (ff (-1 : Int32).toNatClampNeg) = (v_32, otd_26, true, oaT_28, oaF_29, odg_33, ofi_34) := by unfold M_compared; rw [tup2_e e_3, if_pos c_5, tup5_e e_30, if_neg c_31, tup3_e e_35]; try rfl
        exact W.iret hx hb hr (fun t9 ht hW => ⟨⟨_, v_32, rfl, rfl, ⟨otd_26, true, oaT_28, oaF_29, odg_33, ofi_34, hw, by rw [ht]; exact hP, hD⟩⟩, hS.F ht⟩) hS.2.2 dX3_compared_104
      · refine lv_aload_n hx hb dX3_compared_79 rfl (lv_at hl 2 rfl) ?_
        refine va_get (v := .int (bI oan_27)) (C := RX3) (T := TX3) (N := 13) hx hb hts in_X3 hown hK hP 0 rfl rfl 5 (by decide) w_1 (fun _ h9 => h9) rfl dX3_compared_80 ?_
        refine q_cut (v := (if bI oan_27 = 0 then (3 : Int32) else (2 : Int32))) (pcJ := 91) (rest := []) (fun J => ?_) ?_
        · refine lv_if_eq (tgt := 90) hx hb dX3_compared_83 (by decide) (fun c_36 => ?_) (fun c_36 => ?_)
          · refine lv_iconst (v := 3) hx hb dX3_compared_90 (by decide) ?_
            exact J _ (by rw [if_pos c_36]; try rfl)
          · refine lv_iconst (v := 2) hx hb dX3_compared_86 (by decide) ?_
            refine lv_goto (tgt := 91) hx hb dX3_compared_87 (by decide) ?_
            exact J _ (by rw [if_neg c_36]; try rfl)
        have hw : M_compared ct aT aF dg fi (tf ra.toNatClampNeg) (ff ra.toNatClampNeg) wz rb (tf rb.toNatClampNeg) (ff rb.toNatClampNeg) (tf (-1 : Int32).toNatClampNeg) (ff (-1 : Int32).toNatClampNeg) = ((if bI oan_27 = 0 then (3 : Int32) else (2 : Int32)), otd_26, oan_27, oaT_28, oaF_29, dg, fi) := by unfold M_compared; rw [tup2_e e_3, if_pos c_5, tup5_e e_30, if_pos c_31]; try rfl
        exact W.iret hx hb hr (fun t9 ht hW => ⟨⟨_, (if bI oan_27 = 0 then (3 : Int32) else (2 : Int32)), rfl, rfl, ⟨otd_26, oan_27, oaT_28, oaF_29, dg, fi, hw, by rw [ht]; exact hP, hD⟩⟩, hS.F ht⟩) hS.2.2 dX3_compared_91
    · exact absurd c_5 c_22
def M_compare (tf : Nat → Int32) (ff : Nat → Int64) (ct : Int32) (td : Int32) (an : Bool) (aT : Int32) (aF : Int64) (dg : Int64) (fi : Int32) (ra : Int32) (rb : Int32) : Int32 × Int32 × Int32 × Bool × Int32 × Int64 × Int64 × Int32 :=
  if bI (M_none ra) = 0 then (if bI (M_none rb) = 0 then (tup7 ((M_compared ct aT aF dg fi (tf ra.toNatClampNeg) (ff ra.toNatClampNeg) false rb (tf rb.toNatClampNeg) (ff rb.toNatClampNeg) (tf (-1 : Int32).toNatClampNeg) (ff (-1 : Int32).toNatClampNeg))) (fun v_5 otd_6 oan_7 oaT_8 oaF_9 odg_10 ofi_11 =>
        (v_5, 0, otd_6, oan_7, oaT_8, oaF_9, odg_10, ofi_11)))
    else (0, 1, td, an, aT, aF, dg, fi))
  else (0, 1, td, an, aT, aF, dg, fi)
theorem kS_X3_compare : yX3_compare.cls ≠ "java/lang/invoke/MethodHandle" ∧ yX3_compare.cls ≠ "java/lang/invoke/VarHandle" ∧ (parseMethodDescriptor yX3_compare.desc).map (fun d => d.parameters.length) = some 2 := by decide +kernel
theorem kV_X3_compare : yX3_compare.cls = RX3 ∧ yX3_compare.cls ≠ "java/lang/invoke/MethodHandle" ∧ yX3_compare.cls ≠ "java/lang/invoke/VarHandle" ∧ (parseMethodDescriptor yX3_compare.desc).map (fun d => d.parameters.length) = some 2 := ⟨rfl, kS_X3_compare⟩
set_option maxHeartbeats 4000000 in
set_option maxRecDepth 100000 in
theorem c_X3_compare (l : Launch) (D : va_G) (h : Nat) (q1 : Nat) (q2 : Nat) (cA : ClassId) (cB : ClassId) (cd : Int32) (ct : Int32) (tf : Nat → Int32) (ff : Nat → Int64) (td : Int32) (an : Bool) (qb : Int32) (pa : Bool) (aT : Int32) (aF : Int64) (dg : Int64) (fi : Int32) (lo : Bool) (ra : Int32) (rb : Int32) (sz : Nat) : Met l yX3_compare wsX3_compare ({ frames := 4, cells := 0, slots := 0, locals := 99 } : Room) (va_Pc [.ref h, .int ra, .int rb] (MMB D (tRS cA cB) (cMd h q1 q2 cA cB cd ct tf ff td an qb pa aT aF dg fi lo) sz)) (va_Qi (fun (r u : Int32) => r = u) (fun u t => ∃ (w_cd : Int32) (w_td : Int32) (w_an : Bool) (w_aT : Int32) (w_aF : Int64) (w_dg : Int64) (w_fi : Int32), M_compare tf ff ct td an aT aF dg fi ra rb = (u, w_cd, w_td, w_an, w_aT, w_aF, w_dg, w_fi) ∧ va_P D vwCl (cMd h q1 q2 cA cB w_cd ct tf ff w_td w_an qb pa w_aT w_aF w_dg w_fi lo) t.heap ∧ va_D (va_A (cMd h q1 q2 cA cB cd ct tf ff td an qb pa aT aF dg fi lo) sz) (cMd h q1 q2 cA cB w_cd ct tf ff w_td w_an qb pa w_aT w_aF w_dg w_fi lo)) (va_A (cMd h q1 q2 cA cB cd ct tf ff td an qb pa aT aF dg fi lo) sz)) 0 0 (va_A (cMd h q1 q2 cA cB cd ct tf ff td an qb pa aT aF dg fi lo) sz) := by
  refine Met.ofW (cc := cX3_compare) (maxL := 3) (ret := (some .int)) (by decide) rfl ?_
  intro p e s m args below meth c s₁ B hml hv
  obtain ⟨rfl, hsz, hP, hK, hD0⟩ := hv
  have hx := B.exec
  have hb := B.bytes
  have hr := B.returns
  have hts := atoms_spec (ws := wsX3_compare) B.pre
  have hown : s.vm.findClass RX3 = some m.cls := findClass_of_methodNamed B.named
  have hlocks := B.notSynchronized
  have w_1 := hts (.fieldLink RX3 21 "RealStepsModel" "code" "I") (by decide +kernel)
  have in_X3 : ∀ w ∈ wsX30, w ∈ wsX3_compare := by decide +kernel
  subst hsz
  have hD := hD0.self (sz := s.heap.size)
  generalize hAe : va_A (cMd h q1 q2 cA cB cd ct tf ff td an qb pa aT aF dg fi lo) s.heap.size = A at hD ⊢
  have hA : ∀ q : Nat, s.heap.size ≤ q → A q := fun q h => by rw [← hAe]; exact Or.inr h
  have hS : va_S A s.heap s.heap [] := va_S.rf
  have hP : va_P D vwCl (cMd h q1 q2 cA cB cd ct tf ff td an qb pa aT aF dg fi lo) s.heap := hP
  have hl := lv_entry ([.ref h, .int ra, .int rb]) (n := 3) (Nat.le_of_ble_eq_true rfl)
  rw [lg_entry_eq]
  generalize (lg_sl ([.ref h, .int ra, .int rb]) ++ List.replicate (3 - (lg_sl ([.ref h, .int ra, .int rb])).length) Slot.unset).toArray = ls at hl ⊢
  have hl : lv_has ls 3 [(0, .ref h), (1, .int ra), (2, .int rb)] := hl
  refine lv_aload_n hx hb dX3_compare_0 rfl (lv_at hl 0 rfl) ?_
  refine lv_iload_n hx hb dX3_compare_1 rfl (lv_at hl 1 rfl) ?_
  refine vp_callSi (va_cr (va_runS (As := [.int ra]) (rest := [.ref h]) ⟨hx, hb, hml, hown, hts⟩ (c_X3_none l ra) (va_cwS 1 hts gX3_compare_X3_none rfl rfl rfl kS_X3_none ⟨Nat.le_of_ble_eq_true rfl, Nat.le_of_ble_eq_true rfl⟩) ⟨TB.blind, TB.pre⟩ rfl rfl hl.1 rfl (lv_room (Nat.le_of_ble_eq_true rfl)) dX3_compare_2 ⟨Nat.le_of_ble_eq_true rfl, Nat.le_of_ble_eq_true rfl⟩)) (fun r9 e9 => ?_)
  rw [e9]
  refine lv_if_ne (tgt := 15) hx hb dX3_compare_5 (by decide) (fun c_1 => ?_) (fun c_1 => ?_)
  · refine lv_iconst (v := 1) hx hb dX3_compare_15 (by decide) ?_
    refine lv_goto (tgt := 20) hx hb dX3_compare_16 (by decide) ?_
    refine va_put (v := .int 1) (ty := .int) (C := RX3) (T := TX3) (N := 13) hx hb hts in_X3 tyX3 tyX3_ok nmX3 hown hK hP hD hS 0 rfl rfl 0 (by decide) w_1 (fun _ h9 => h9) rfl (tyX3_ok 0 (by decide)) rfl rfl (Nat.le_of_ble_eq_true rfl) dX3_compare_20 (fun H locs hP hD hS => ?_)
    have hP : va_P D vwCl (cMd h q1 q2 cA cB 1 ct tf ff td an qb pa aT aF dg fi lo) H := hP
    have hD : va_D A (cMd h q1 q2 cA cB 1 ct tf ff td an qb pa aT aF dg fi lo) := hD
    refine lv_aload_n hx hb dX3_compare_23 rfl (lv_at hl 0 rfl) ?_
    refine va_get (v := .int 1) (C := RX3) (T := TX3) (N := 13) hx hb hts in_X3 hown hK hP 0 rfl rfl 0 (by decide) w_1 (fun _ h9 => h9) rfl dX3_compare_24 ?_
    refine lv_if_le (tgt := 34) hx hb dX3_compare_27 (by decide) (fun c_2 => ?_) (fun c_2 => ?_)
    · exact absurd c_2 (by decide)
    · refine lv_iconst (v := 0) hx hb dX3_compare_30 (by decide) ?_
      refine lv_goto (tgt := 41) hx hb dX3_compare_31 (by decide) ?_
      have hw : M_compare tf ff ct td an aT aF dg fi ra rb = (0, 1, td, an, aT, aF, dg, fi) := by unfold M_compare; rw [if_neg c_1]; try rfl
      exact W.iret hx hb hr (fun t9 ht hW => ⟨⟨_, 0, rfl, rfl, ⟨1, td, an, aT, aF, dg, fi, hw, by rw [ht]; exact hP, hD⟩⟩, hS.F ht⟩) hS.2.2 dX3_compare_41
  · refine lv_iload_n hx hb dX3_compare_8 rfl (lv_at hl 2 rfl) ?_
    refine vp_callSi (va_cr (va_runS (As := [.int rb]) (rest := [.ref h]) ⟨hx, hb, hml, hown, hts⟩ (c_X3_none l rb) (va_cwS 1 hts gX3_compare_X3_none rfl rfl rfl kS_X3_none ⟨Nat.le_of_ble_eq_true rfl, Nat.le_of_ble_eq_true rfl⟩) ⟨TB.blind, TB.pre⟩ rfl rfl hl.1 rfl (lv_room (Nat.le_of_ble_eq_true rfl)) dX3_compare_9 ⟨Nat.le_of_ble_eq_true rfl, Nat.le_of_ble_eq_true rfl⟩)) (fun r9 e9 => ?_)
    rw [e9]
    refine lv_if_eq (tgt := 19) hx hb dX3_compare_12 (by decide) (fun c_3 => ?_) (fun c_3 => ?_)
    · refine lv_iconst (v := 0) hx hb dX3_compare_19 (by decide) ?_
      refine va_put (v := .int 0) (ty := .int) (C := RX3) (T := TX3) (N := 13) hx hb hts in_X3 tyX3 tyX3_ok nmX3 hown hK hP hD hS 0 rfl rfl 0 (by decide) w_1 (fun _ h9 => h9) rfl (tyX3_ok 0 (by decide)) rfl rfl (Nat.le_of_ble_eq_true rfl) dX3_compare_20 (fun H locs hP hD hS => ?_)
      have hP : va_P D vwCl (cMd h q1 q2 cA cB 0 ct tf ff td an qb pa aT aF dg fi lo) H := hP
      have hD : va_D A (cMd h q1 q2 cA cB 0 ct tf ff td an qb pa aT aF dg fi lo) := hD
      refine lv_aload_n hx hb dX3_compare_23 rfl (lv_at hl 0 rfl) ?_
      refine va_get (v := .int 0) (C := RX3) (T := TX3) (N := 13) hx hb hts in_X3 hown hK hP 0 rfl rfl 0 (by decide) w_1 (fun _ h9 => h9) rfl dX3_compare_24 ?_
      refine lv_if_le (tgt := 34) hx hb dX3_compare_27 (by decide) (fun c_4 => ?_) (fun c_4 => ?_)
      · refine lv_aload_n hx hb dX3_compare_34 rfl (lv_at hl 0 rfl) ?_
        refine lv_iload_n hx hb dX3_compare_35 rfl (lv_at hl 1 rfl) ?_
        refine lv_iconst (v := 0) hx hb dX3_compare_36 (by decide) ?_
        refine lv_iload_n hx hb dX3_compare_37 rfl (lv_at hl 2 rfl) ?_
        have hFc := va_free (wc := cMd h q1 q2 cA cB 0 ct tf ff td an qb pa aT aF dg fi lo) hD hS hA [0, 1, 2] rfl
        refine va_calli (va_runV (As := [.int ra, .int (bI false), .int rb]) (rest := []) ⟨hx, hb, hml, hown, hts⟩ (c_X3_compared l D h q1 q2 cA cB 0 ct tf ff td an qb pa aT aF dg fi lo ra false rb H.size (M_none_in c_1) (fun _ => (M_none_in c_3))) (cwV 3 hts gX3_compare_X3_compared rfl rfl rfl kV_X3_compared ⟨Nat.le_of_ble_eq_true rfl, Nat.le_of_ble_eq_true rfl⟩) ⟨MMB.blind, va_recv hK hP (ci := 2) (q0 := 0) rfl rfl, MMB.pre hK hP hD⟩ rfl rfl hl.1 rfl (lv_room (Nat.le_of_ble_eq_true rfl)) dX3_compare_38 ⟨Nat.le_of_ble_eq_true rfl, Nat.le_of_ble_eq_true rfl⟩) hS (fun q _ h9 => hFc q h9) hFc (fun v_5 u9 t9 H locs ht hvm hw hB hz1 hk1 hS => ?_)
        obtain rfl := hw
        obtain ⟨otd_6, oan_7, oaT_8, oaF_9, odg_10, ofi_11, e_12, hP, hD9⟩ := hB
        rw [ht] at hP
        have hD : va_D A (cMd h q1 q2 cA cB 0 ct tf ff otd_6 oan_7 qb pa oaT_8 oaF_9 odg_10 ofi_11 lo) := hD9.weaken (fun _ _ _ h => hFc _ h)
        have hw : M_compare tf ff ct td an aT aF dg fi ra rb = (v_5, 0, otd_6, oan_7, oaT_8, oaF_9, odg_10, ofi_11) := by unfold M_compare; rw [if_pos c_1, if_pos c_3, tup7_e e_12]; try rfl
        exact W.iret hx hb hr (fun t9 ht hW => ⟨⟨_, v_5, rfl, rfl, ⟨0, otd_6, oan_7, oaT_8, oaF_9, odg_10, ofi_11, hw, by rw [ht]; exact hP, hD⟩⟩, hS.F ht⟩) hS.2.2 dX3_compare_41
      · exact absurd c_4 (by decide)
    · refine lv_iconst (v := 1) hx hb dX3_compare_15 (by decide) ?_
      refine lv_goto (tgt := 20) hx hb dX3_compare_16 (by decide) ?_
      refine va_put (v := .int 1) (ty := .int) (C := RX3) (T := TX3) (N := 13) hx hb hts in_X3 tyX3 tyX3_ok nmX3 hown hK hP hD hS 0 rfl rfl 0 (by decide) w_1 (fun _ h9 => h9) rfl (tyX3_ok 0 (by decide)) rfl rfl (Nat.le_of_ble_eq_true rfl) dX3_compare_20 (fun H locs hP hD hS => ?_)
      have hP : va_P D vwCl (cMd h q1 q2 cA cB 1 ct tf ff td an qb pa aT aF dg fi lo) H := hP
      have hD : va_D A (cMd h q1 q2 cA cB 1 ct tf ff td an qb pa aT aF dg fi lo) := hD
      refine lv_aload_n hx hb dX3_compare_23 rfl (lv_at hl 0 rfl) ?_
      refine va_get (v := .int 1) (C := RX3) (T := TX3) (N := 13) hx hb hts in_X3 hown hK hP 0 rfl rfl 0 (by decide) w_1 (fun _ h9 => h9) rfl dX3_compare_24 ?_
      refine lv_if_le (tgt := 34) hx hb dX3_compare_27 (by decide) (fun c_13 => ?_) (fun c_13 => ?_)
      · exact absurd c_13 (by decide)
      · refine lv_iconst (v := 0) hx hb dX3_compare_30 (by decide) ?_
        refine lv_goto (tgt := 41) hx hb dX3_compare_31 (by decide) ?_
        have hw : M_compare tf ff ct td an aT aF dg fi ra rb = (0, 1, td, an, aT, aF, dg, fi) := by unfold M_compare; rw [if_pos c_1, if_neg c_3]; try rfl
        exact W.iret hx hb hr (fun t9 ht hW => ⟨⟨_, 0, rfl, rfl, ⟨1, td, an, aT, aF, dg, fi, hw, by rw [ht]; exact hP, hD⟩⟩, hS.F ht⟩) hS.2.2 dX3_compare_41
def M_test (tf : Nat → Int32) (ff : Nat → Int64) (ct : Int32) (td : Int32) (an : Bool) (aT : Int32) (aF : Int64) (dg : Int64) (fi : Int32) (ra : Int32) : Int32 × Int32 × Int32 × Bool × Int32 × Int64 × Int64 × Int32 :=
  if bI (M_none ra) = 0 then (tup7 ((M_compared ct aT aF dg fi (tf ra.toNatClampNeg) (ff ra.toNatClampNeg) true (-1) (tf (-1 : Int32).toNatClampNeg) (ff (-1 : Int32).toNatClampNeg) (tf (-1 : Int32).toNatClampNeg) (ff (-1 : Int32).toNatClampNeg))) (fun v_3 otd_4 oan_5 oaT_6 oaF_7 odg_8 ofi_9 =>
      (v_3, 0, otd_4, oan_5, oaT_6, oaF_7, odg_8, ofi_9)))
  else (0, 1, td, an, aT, aF, dg, fi)
theorem kS_X3_test : yX3_test.cls ≠ "java/lang/invoke/MethodHandle" ∧ yX3_test.cls ≠ "java/lang/invoke/VarHandle" ∧ (parseMethodDescriptor yX3_test.desc).map (fun d => d.parameters.length) = some 1 := by decide +kernel
theorem kV_X3_test : yX3_test.cls = RX3 ∧ yX3_test.cls ≠ "java/lang/invoke/MethodHandle" ∧ yX3_test.cls ≠ "java/lang/invoke/VarHandle" ∧ (parseMethodDescriptor yX3_test.desc).map (fun d => d.parameters.length) = some 1 := ⟨rfl, kS_X3_test⟩
set_option maxHeartbeats 4000000 in
set_option maxRecDepth 100000 in
theorem c_X3_test (l : Launch) (D : va_G) (h : Nat) (q1 : Nat) (q2 : Nat) (cA : ClassId) (cB : ClassId) (cd : Int32) (ct : Int32) (tf : Nat → Int32) (ff : Nat → Int64) (td : Int32) (an : Bool) (qb : Int32) (pa : Bool) (aT : Int32) (aF : Int64) (dg : Int64) (fi : Int32) (lo : Bool) (ra : Int32) (sz : Nat) : Met l yX3_test wsX3_test ({ frames := 4, cells := 0, slots := 0, locals := 99 } : Room) (va_Pc [.ref h, .int ra] (MMB D (tRS cA cB) (cMd h q1 q2 cA cB cd ct tf ff td an qb pa aT aF dg fi lo) sz)) (va_Qi (fun (r u : Int32) => r = u) (fun u t => ∃ (w_cd : Int32) (w_td : Int32) (w_an : Bool) (w_aT : Int32) (w_aF : Int64) (w_dg : Int64) (w_fi : Int32), M_test tf ff ct td an aT aF dg fi ra = (u, w_cd, w_td, w_an, w_aT, w_aF, w_dg, w_fi) ∧ va_P D vwCl (cMd h q1 q2 cA cB w_cd ct tf ff w_td w_an qb pa w_aT w_aF w_dg w_fi lo) t.heap ∧ va_D (va_A (cMd h q1 q2 cA cB cd ct tf ff td an qb pa aT aF dg fi lo) sz) (cMd h q1 q2 cA cB w_cd ct tf ff w_td w_an qb pa w_aT w_aF w_dg w_fi lo)) (va_A (cMd h q1 q2 cA cB cd ct tf ff td an qb pa aT aF dg fi lo) sz)) 0 0 (va_A (cMd h q1 q2 cA cB cd ct tf ff td an qb pa aT aF dg fi lo) sz) := by
  refine Met.ofW (cc := cX3_test) (maxL := 2) (ret := (some .int)) (by decide) rfl ?_
  intro p e s m args below meth c s₁ B hml hv
  obtain ⟨rfl, hsz, hP, hK, hD0⟩ := hv
  have hx := B.exec
  have hb := B.bytes
  have hr := B.returns
  have hts := atoms_spec (ws := wsX3_test) B.pre
  have hown : s.vm.findClass RX3 = some m.cls := findClass_of_methodNamed B.named
  have hlocks := B.notSynchronized
  have w_1 := hts (.fieldLink RX3 21 "RealStepsModel" "code" "I") (by decide +kernel)
  have in_X3 : ∀ w ∈ wsX30, w ∈ wsX3_test := by decide +kernel
  subst hsz
  have hD := hD0.self (sz := s.heap.size)
  generalize hAe : va_A (cMd h q1 q2 cA cB cd ct tf ff td an qb pa aT aF dg fi lo) s.heap.size = A at hD ⊢
  have hA : ∀ q : Nat, s.heap.size ≤ q → A q := fun q h => by rw [← hAe]; exact Or.inr h
  have hS : va_S A s.heap s.heap [] := va_S.rf
  have hP : va_P D vwCl (cMd h q1 q2 cA cB cd ct tf ff td an qb pa aT aF dg fi lo) s.heap := hP
  have hl := lv_entry ([.ref h, .int ra]) (n := 2) (Nat.le_of_ble_eq_true rfl)
  rw [lg_entry_eq]
  generalize (lg_sl ([.ref h, .int ra]) ++ List.replicate (2 - (lg_sl ([.ref h, .int ra])).length) Slot.unset).toArray = ls at hl ⊢
  have hl : lv_has ls 2 [(0, .ref h), (1, .int ra)] := hl
  refine lv_aload_n hx hb dX3_test_0 rfl (lv_at hl 0 rfl) ?_
  refine lv_iload_n hx hb dX3_test_1 rfl (lv_at hl 1 rfl) ?_
  refine vp_callSi (va_cr (va_runS (As := [.int ra]) (rest := [.ref h]) ⟨hx, hb, hml, hown, hts⟩ (c_X3_none l ra) (va_cwS 1 hts gX3_test_X3_none rfl rfl rfl kS_X3_none ⟨Nat.le_of_ble_eq_true rfl, Nat.le_of_ble_eq_true rfl⟩) ⟨TB.blind, TB.pre⟩ rfl rfl hl.1 rfl (lv_room (Nat.le_of_ble_eq_true rfl)) dX3_test_2 ⟨Nat.le_of_ble_eq_true rfl, Nat.le_of_ble_eq_true rfl⟩)) (fun r9 e9 => ?_)
  rw [e9]
  refine lv_if_eq (tgt := 12) hx hb dX3_test_5 (by decide) (fun c_1 => ?_) (fun c_1 => ?_)
  · refine lv_iconst (v := 0) hx hb dX3_test_12 (by decide) ?_
    refine va_put (v := .int 0) (ty := .int) (C := RX3) (T := TX3) (N := 13) hx hb hts in_X3 tyX3 tyX3_ok nmX3 hown hK hP hD hS 0 rfl rfl 0 (by decide) w_1 (fun _ h9 => h9) rfl (tyX3_ok 0 (by decide)) rfl rfl (Nat.le_of_ble_eq_true rfl) dX3_test_13 (fun H locs hP hD hS => ?_)
    have hP : va_P D vwCl (cMd h q1 q2 cA cB 0 ct tf ff td an qb pa aT aF dg fi lo) H := hP
    have hD : va_D A (cMd h q1 q2 cA cB 0 ct tf ff td an qb pa aT aF dg fi lo) := hD
    refine lv_aload_n hx hb dX3_test_16 rfl (lv_at hl 0 rfl) ?_
    refine va_get (v := .int 0) (C := RX3) (T := TX3) (N := 13) hx hb hts in_X3 hown hK hP 0 rfl rfl 0 (by decide) w_1 (fun _ h9 => h9) rfl dX3_test_17 ?_
    refine lv_if_le (tgt := 27) hx hb dX3_test_20 (by decide) (fun c_2 => ?_) (fun c_2 => ?_)
    · refine lv_aload_n hx hb dX3_test_27 rfl (lv_at hl 0 rfl) ?_
      refine lv_iload_n hx hb dX3_test_28 rfl (lv_at hl 1 rfl) ?_
      refine lv_iconst (v := 1) hx hb dX3_test_29 (by decide) ?_
      refine lv_iconst (v := (-1)) hx hb dX3_test_30 (by decide) ?_
      have hFc := va_free (wc := cMd h q1 q2 cA cB 0 ct tf ff td an qb pa aT aF dg fi lo) hD hS hA [0, 1, 2] rfl
      refine va_calli (va_runV (As := [.int ra, .int (bI true), .int (-1)]) (rest := []) ⟨hx, hb, hml, hown, hts⟩ (c_X3_compared l D h q1 q2 cA cB 0 ct tf ff td an qb pa aT aF dg fi lo ra true (-1) H.size (M_none_in c_1) (fun h => absurd h (by decide))) (cwV 3 hts gX3_test_X3_compared rfl rfl rfl kV_X3_compared ⟨Nat.le_of_ble_eq_true rfl, Nat.le_of_ble_eq_true rfl⟩) ⟨MMB.blind, va_recv hK hP (ci := 2) (q0 := 0) rfl rfl, MMB.pre hK hP hD⟩ rfl rfl hl.1 rfl (lv_room (Nat.le_of_ble_eq_true rfl)) dX3_test_31 ⟨Nat.le_of_ble_eq_true rfl, Nat.le_of_ble_eq_true rfl⟩) hS (fun q _ h9 => hFc q h9) hFc (fun v_3 u9 t9 H locs ht hvm hw hB hz1 hk1 hS => ?_)
      obtain rfl := hw
      obtain ⟨otd_4, oan_5, oaT_6, oaF_7, odg_8, ofi_9, e_10, hP, hD9⟩ := hB
      rw [ht] at hP
      have hD : va_D A (cMd h q1 q2 cA cB 0 ct tf ff otd_4 oan_5 qb pa oaT_6 oaF_7 odg_8 ofi_9 lo) := hD9.weaken (fun _ _ _ h => hFc _ h)
      have hw : M_test tf ff ct td an aT aF dg fi ra = (v_3, 0, otd_4, oan_5, oaT_6, oaF_7, odg_8, ofi_9) := by unfold M_test; rw [if_pos c_1, tup7_e e_10]; try rfl
      exact W.iret hx hb hr (fun t9 ht hW => ⟨⟨_, v_3, rfl, rfl, ⟨0, otd_4, oan_5, oaT_6, oaF_7, odg_8, ofi_9, hw, by rw [ht]; exact hP, hD⟩⟩, hS.F ht⟩) hS.2.2 dX3_test_34
    · exact absurd c_2 (by decide)
  · refine lv_iconst (v := 1) hx hb dX3_test_8 (by decide) ?_
    refine lv_goto (tgt := 13) hx hb dX3_test_9 (by decide) ?_
    refine va_put (v := .int 1) (ty := .int) (C := RX3) (T := TX3) (N := 13) hx hb hts in_X3 tyX3 tyX3_ok nmX3 hown hK hP hD hS 0 rfl rfl 0 (by decide) w_1 (fun _ h9 => h9) rfl (tyX3_ok 0 (by decide)) rfl rfl (Nat.le_of_ble_eq_true rfl) dX3_test_13 (fun H locs hP hD hS => ?_)
    have hP : va_P D vwCl (cMd h q1 q2 cA cB 1 ct tf ff td an qb pa aT aF dg fi lo) H := hP
    have hD : va_D A (cMd h q1 q2 cA cB 1 ct tf ff td an qb pa aT aF dg fi lo) := hD
    refine lv_aload_n hx hb dX3_test_16 rfl (lv_at hl 0 rfl) ?_
    refine va_get (v := .int 1) (C := RX3) (T := TX3) (N := 13) hx hb hts in_X3 hown hK hP 0 rfl rfl 0 (by decide) w_1 (fun _ h9 => h9) rfl dX3_test_17 ?_
    refine lv_if_le (tgt := 27) hx hb dX3_test_20 (by decide) (fun c_11 => ?_) (fun c_11 => ?_)
    · exact absurd c_11 (by decide)
    · refine lv_iconst (v := 0) hx hb dX3_test_23 (by decide) ?_
      refine lv_goto (tgt := 34) hx hb dX3_test_24 (by decide) ?_
      have hw : M_test tf ff ct td an aT aF dg fi ra = (0, 1, td, an, aT, aF, dg, fi) := by unfold M_test; rw [if_neg c_1]; try rfl
      exact W.iret hx hb hr (fun t9 ht hW => ⟨⟨_, 0, rfl, rfl, ⟨1, td, an, aT, aF, dg, fi, hw, by rw [ht]; exact hP, hD⟩⟩, hS.F ht⟩) hS.2.2 dX3_test_34
def M_examine (tf : Nat → Int32) (ff : Nat → Int64) (ra : Int32) : Int32 × Int32 :=
  if bI (M_none ra) = 0 then ((if bI (M_minus (tf ra.toNatClampNeg)) = 0 then (if (M_kind (tf ra.toNatClampNeg) (ff ra.toNatClampNeg)) = 0 then (8 : Int32) else (if (M_kind (tf ra.toNatClampNeg) (ff ra.toNatClampNeg)) = 1 then (12 : Int32) else (if (M_kind (tf ra.toNatClampNeg) (ff ra.toNatClampNeg)) = 2 then (0 : Int32) else (if (M_kind (tf ra.toNatClampNeg) (ff ra.toNatClampNeg)) = 3 then (4 : Int32) else (if (M_kind (tf ra.toNatClampNeg) (ff ra.toNatClampNeg)) = 4 then (5 : Int32) else (1 : Int32)))))) else ((if (M_kind (tf ra.toNatClampNeg) (ff ra.toNatClampNeg)) = 0 then (8 : Int32) else (if (M_kind (tf ra.toNatClampNeg) (ff ra.toNatClampNeg)) = 1 then (12 : Int32) else (if (M_kind (tf ra.toNatClampNeg) (ff ra.toNatClampNeg)) = 2 then (0 : Int32) else (if (M_kind (tf ra.toNatClampNeg) (ff ra.toNatClampNeg)) = 3 then (4 : Int32) else (if (M_kind (tf ra.toNatClampNeg) (ff ra.toNatClampNeg)) = 4 then (5 : Int32) else (1 : Int32)))))) + 2)), 0)
  else (0, 1)
theorem kS_X3_examine : yX3_examine.cls ≠ "java/lang/invoke/MethodHandle" ∧ yX3_examine.cls ≠ "java/lang/invoke/VarHandle" ∧ (parseMethodDescriptor yX3_examine.desc).map (fun d => d.parameters.length) = some 1 := by decide +kernel
theorem kV_X3_examine : yX3_examine.cls = RX3 ∧ yX3_examine.cls ≠ "java/lang/invoke/MethodHandle" ∧ yX3_examine.cls ≠ "java/lang/invoke/VarHandle" ∧ (parseMethodDescriptor yX3_examine.desc).map (fun d => d.parameters.length) = some 1 := ⟨rfl, kS_X3_examine⟩
set_option maxHeartbeats 4000000 in
set_option maxRecDepth 100000 in
theorem c_X3_examine (l : Launch) (D : va_G) (h : Nat) (q1 : Nat) (q2 : Nat) (cA : ClassId) (cB : ClassId) (cd : Int32) (ct : Int32) (tf : Nat → Int32) (ff : Nat → Int64) (td : Int32) (an : Bool) (qb : Int32) (pa : Bool) (aT : Int32) (aF : Int64) (dg : Int64) (fi : Int32) (lo : Bool) (ra : Int32) (sz : Nat) : Met l yX3_examine wsX3_examine ({ frames := 1, cells := 0, slots := 0, locals := 23 } : Room) (va_Pc [.ref h, .int ra] (MMB D (tRS cA cB) (cMd h q1 q2 cA cB cd ct tf ff td an qb pa aT aF dg fi lo) sz)) (va_Qi (fun (r u : Int32) => r = u) (fun u t => ∃ (w_cd : Int32), M_examine tf ff ra = (u, w_cd) ∧ va_P D vwCl (cMd h q1 q2 cA cB w_cd ct tf ff td an qb pa aT aF dg fi lo) t.heap ∧ va_D (va_A (cMd h q1 q2 cA cB cd ct tf ff td an qb pa aT aF dg fi lo) sz) (cMd h q1 q2 cA cB w_cd ct tf ff td an qb pa aT aF dg fi lo)) (va_A (cMd h q1 q2 cA cB cd ct tf ff td an qb pa aT aF dg fi lo) sz)) 0 0 (va_A (cMd h q1 q2 cA cB cd ct tf ff td an qb pa aT aF dg fi lo) sz) := by
  refine Met.ofW (cc := cX3_examine) (maxL := 4) (ret := (some .int)) (by decide) rfl ?_
  intro p e s m args below meth c s₁ B hml hv
  obtain ⟨rfl, hsz, hP, hK, hD0⟩ := hv
  have hx := B.exec
  have hb := B.bytes
  have hr := B.returns
  have hts := atoms_spec (ws := wsX3_examine) B.pre
  have hown : s.vm.findClass RX3 = some m.cls := findClass_of_methodNamed B.named
  have hlocks := B.notSynchronized
  have w_1 := hts (.fieldLink RX3 21 "RealStepsModel" "code" "I") (by decide +kernel)
  have in_X3 : ∀ w ∈ wsX30, w ∈ wsX3_examine := by decide +kernel
  subst hsz
  have hD := hD0.self (sz := s.heap.size)
  generalize hAe : va_A (cMd h q1 q2 cA cB cd ct tf ff td an qb pa aT aF dg fi lo) s.heap.size = A at hD ⊢
  have hA : ∀ q : Nat, s.heap.size ≤ q → A q := fun q h => by rw [← hAe]; exact Or.inr h
  have hS : va_S A s.heap s.heap [] := va_S.rf
  have hP : va_P D vwCl (cMd h q1 q2 cA cB cd ct tf ff td an qb pa aT aF dg fi lo) s.heap := hP
  have hl := lv_entry ([.ref h, .int ra]) (n := 4) (Nat.le_of_ble_eq_true rfl)
  rw [lg_entry_eq]
  generalize (lg_sl ([.ref h, .int ra]) ++ List.replicate (4 - (lg_sl ([.ref h, .int ra])).length) Slot.unset).toArray = ls at hl ⊢
  have hl : lv_has ls 4 [(0, .ref h), (1, .int ra)] := hl
  refine lv_aload_n hx hb dX3_examine_0 rfl (lv_at hl 0 rfl) ?_
  refine lv_iload_n hx hb dX3_examine_1 rfl (lv_at hl 1 rfl) ?_
  refine vp_callSi (va_cr (va_runS (As := [.int ra]) (rest := [.ref h]) ⟨hx, hb, hml, hown, hts⟩ (c_X3_none l ra) (va_cwS 1 hts gX3_examine_X3_none rfl rfl rfl kS_X3_none ⟨Nat.le_of_ble_eq_true rfl, Nat.le_of_ble_eq_true rfl⟩) ⟨TB.blind, TB.pre⟩ rfl rfl hl.1 rfl (lv_room (Nat.le_of_ble_eq_true rfl)) dX3_examine_2 ⟨Nat.le_of_ble_eq_true rfl, Nat.le_of_ble_eq_true rfl⟩)) (fun r9 e9 => ?_)
  rw [e9]
  refine lv_if_eq (tgt := 12) hx hb dX3_examine_5 (by decide) (fun c_1 => ?_) (fun c_1 => ?_)
  · refine lv_iconst (v := 0) hx hb dX3_examine_12 (by decide) ?_
    refine va_put (v := .int 0) (ty := .int) (C := RX3) (T := TX3) (N := 13) hx hb hts in_X3 tyX3 tyX3_ok nmX3 hown hK hP hD hS 0 rfl rfl 0 (by decide) w_1 (fun _ h9 => h9) rfl (tyX3_ok 0 (by decide)) rfl rfl (Nat.le_of_ble_eq_true rfl) dX3_examine_13 (fun H locs hP hD hS => ?_)
    have hP : va_P D vwCl (cMd h q1 q2 cA cB 0 ct tf ff td an qb pa aT aF dg fi lo) H := hP
    have hD : va_D A (cMd h q1 q2 cA cB 0 ct tf ff td an qb pa aT aF dg fi lo) := hD
    refine lv_aload_n hx hb dX3_examine_16 rfl (lv_at hl 0 rfl) ?_
    refine va_get (v := .int 0) (C := RX3) (T := TX3) (N := 13) hx hb hts in_X3 hown hK hP 0 rfl rfl 0 (by decide) w_1 (fun _ h9 => h9) rfl dX3_examine_17 ?_
    refine lv_if_le (tgt := 25) hx hb dX3_examine_20 (by decide) (fun c_2 => ?_) (fun c_2 => ?_)
    · refine lv_aload_n hx hb dX3_examine_25 rfl (lv_at hl 0 rfl) ?_
      refine lv_iload_n hx hb dX3_examine_26 rfl (lv_at hl 1 rfl) ?_
      refine vp_callSi (va_cr (va_runV (As := [.int ra]) (rest := []) ⟨hx, hb, hml, hown, hts⟩ (c_X3_kind l D h q1 q2 cA cB 0 ct tf ff td an qb pa aT aF dg fi lo ra (M_none_in c_1)) (cwV 1 hts gX3_examine_X3_kind rfl rfl rfl kV_X3_kind ⟨Nat.le_of_ble_eq_true rfl, Nat.le_of_ble_eq_true rfl⟩) ⟨PB.blind, va_recv hK hP (ci := 2) (q0 := 0) rfl rfl, PB.pre hK hP⟩ rfl rfl hl.1 rfl (lv_room (Nat.le_of_ble_eq_true rfl)) dX3_examine_27 ⟨Nat.le_of_ble_eq_true rfl, Nat.le_of_ble_eq_true rfl⟩)) (fun r9 e9 => ?_)
      rw [e9]
      refine lv_istore_n (lv' := [(2, .int (M_kind (tf ra.toNatClampNeg) (ff ra.toNatClampNeg))), (0, .ref h), (1, .int ra)]) hx hb dX3_examine_30 rfl hl (by decide) rfl (fun ls hl => ?_)
      refine lv_iload_n hx hb dX3_examine_31 rfl (lv_at hl 0 rfl) ?_
      refine q_cut (v := (if (M_kind (tf ra.toNatClampNeg) (ff ra.toNatClampNeg)) = 0 then (8 : Int32) else (if (M_kind (tf ra.toNatClampNeg) (ff ra.toNatClampNeg)) = 1 then (12 : Int32) else (if (M_kind (tf ra.toNatClampNeg) (ff ra.toNatClampNeg)) = 2 then (0 : Int32) else (if (M_kind (tf ra.toNatClampNeg) (ff ra.toNatClampNeg)) = 3 then (4 : Int32) else (if (M_kind (tf ra.toNatClampNeg) (ff ra.toNatClampNeg)) = 4 then (5 : Int32) else (1 : Int32))))))) (pcJ := 78) (rest := []) (fun J => ?_) ?_
      · refine lv_if_ne (tgt := 40) hx hb dX3_examine_32 (by decide) (fun c_3 => ?_) (fun c_3 => ?_)
        · refine lv_iload_n hx hb dX3_examine_40 rfl (lv_at hl 0 rfl) ?_
          refine lv_iconst (v := 1) hx hb dX3_examine_41 (by decide) ?_
          refine lv_icmp_ne (tgt := 50) hx hb dX3_examine_42 (by decide) (fun c_4 => ?_) (fun c_4 => ?_)
          · refine lv_iload_n hx hb dX3_examine_50 rfl (lv_at hl 0 rfl) ?_
            refine lv_iconst (v := 2) hx hb dX3_examine_51 (by decide) ?_
            refine lv_icmp_ne (tgt := 59) hx hb dX3_examine_52 (by decide) (fun c_5 => ?_) (fun c_5 => ?_)
            · refine lv_iload_n hx hb dX3_examine_59 rfl (lv_at hl 0 rfl) ?_
              refine lv_iconst (v := 3) hx hb dX3_examine_60 (by decide) ?_
              refine lv_icmp_ne (tgt := 68) hx hb dX3_examine_61 (by decide) (fun c_6 => ?_) (fun c_6 => ?_)
              · refine lv_iload_n hx hb dX3_examine_68 rfl (lv_at hl 0 rfl) ?_
                refine lv_iconst (v := 4) hx hb dX3_examine_69 (by decide) ?_
                refine lv_icmp_ne (tgt := 77) hx hb dX3_examine_70 (by decide) (fun c_7 => ?_) (fun c_7 => ?_)
                · refine lv_iconst (v := 1) hx hb dX3_examine_77 (by decide) ?_
                  exact J _ (by rw [if_neg c_3, if_neg c_4, if_neg c_5, if_neg c_6, if_neg c_7]; try rfl)
                · refine lv_iconst (v := 5) hx hb dX3_examine_73 (by decide) ?_
                  refine lv_goto (tgt := 78) hx hb dX3_examine_74 (by decide) ?_
                  exact J _ (by rw [if_neg c_3, if_neg c_4, if_neg c_5, if_neg c_6, if_pos c_7]; try rfl)
              · refine lv_iconst (v := 4) hx hb dX3_examine_64 (by decide) ?_
                refine lv_goto (tgt := 78) hx hb dX3_examine_65 (by decide) ?_
                exact J _ (by rw [if_neg c_3, if_neg c_4, if_neg c_5, if_pos c_6]; try rfl)
            · refine lv_iconst (v := 0) hx hb dX3_examine_55 (by decide) ?_
              refine lv_goto (tgt := 78) hx hb dX3_examine_56 (by decide) ?_
              exact J _ (by rw [if_neg c_3, if_neg c_4, if_pos c_5]; try rfl)
          · refine lv_bipush (v := 12) hx hb dX3_examine_45 (by decide) ?_
            refine lv_goto (tgt := 78) hx hb dX3_examine_47 (by decide) ?_
            exact J _ (by rw [if_neg c_3, if_pos c_4]; try rfl)
        · refine lv_bipush (v := 8) hx hb dX3_examine_35 (by decide) ?_
          refine lv_goto (tgt := 78) hx hb dX3_examine_37 (by decide) ?_
          exact J _ (by rw [if_pos c_3]; try rfl)
      refine lv_istore_n (lv' := [(3, .int (if (M_kind (tf ra.toNatClampNeg) (ff ra.toNatClampNeg)) = 0 then (8 : Int32) else (if (M_kind (tf ra.toNatClampNeg) (ff ra.toNatClampNeg)) = 1 then (12 : Int32) else (if (M_kind (tf ra.toNatClampNeg) (ff ra.toNatClampNeg)) = 2 then (0 : Int32) else (if (M_kind (tf ra.toNatClampNeg) (ff ra.toNatClampNeg)) = 3 then (4 : Int32) else (if (M_kind (tf ra.toNatClampNeg) (ff ra.toNatClampNeg)) = 4 then (5 : Int32) else (1 : Int32))))))), (2, .int (M_kind (tf ra.toNatClampNeg) (ff ra.toNatClampNeg))), (0, .ref h), (1, .int ra)]) hx hb dX3_examine_78 rfl hl (by decide) rfl (fun ls hl => ?_)
      refine lv_aload_n hx hb dX3_examine_79 rfl (lv_at hl 2 rfl) ?_
      refine lv_iload_n hx hb dX3_examine_80 rfl (lv_at hl 3 rfl) ?_
      refine vp_callSi (va_cr (va_runV (As := [.int ra]) (rest := []) ⟨hx, hb, hml, hown, hts⟩ (c_X3_minus l D h q1 q2 cA cB 0 ct tf ff td an qb pa aT aF dg fi lo ra (M_none_in c_1)) (cwV 1 hts gX3_examine_X3_minus rfl rfl rfl kV_X3_minus ⟨Nat.le_of_ble_eq_true rfl, Nat.le_of_ble_eq_true rfl⟩) ⟨PB.blind, va_recv hK hP (ci := 2) (q0 := 0) rfl rfl, PB.pre hK hP⟩ rfl rfl hl.1 rfl (lv_room (Nat.le_of_ble_eq_true rfl)) dX3_examine_81 ⟨Nat.le_of_ble_eq_true rfl, Nat.le_of_ble_eq_true rfl⟩)) (fun r9 e9 => ?_)
      rw [e9]
      refine q_cut (v := (if bI (M_minus (tf ra.toNatClampNeg)) = 0 then (if (M_kind (tf ra.toNatClampNeg) (ff ra.toNatClampNeg)) = 0 then (8 : Int32) else (if (M_kind (tf ra.toNatClampNeg) (ff ra.toNatClampNeg)) = 1 then (12 : Int32) else (if (M_kind (tf ra.toNatClampNeg) (ff ra.toNatClampNeg)) = 2 then (0 : Int32) else (if (M_kind (tf ra.toNatClampNeg) (ff ra.toNatClampNeg)) = 3 then (4 : Int32) else (if (M_kind (tf ra.toNatClampNeg) (ff ra.toNatClampNeg)) = 4 then (5 : Int32) else (1 : Int32)))))) else ((if (M_kind (tf ra.toNatClampNeg) (ff ra.toNatClampNeg)) = 0 then (8 : Int32) else (if (M_kind (tf ra.toNatClampNeg) (ff ra.toNatClampNeg)) = 1 then (12 : Int32) else (if (M_kind (tf ra.toNatClampNeg) (ff ra.toNatClampNeg)) = 2 then (0 : Int32) else (if (M_kind (tf ra.toNatClampNeg) (ff ra.toNatClampNeg)) = 3 then (4 : Int32) else (if (M_kind (tf ra.toNatClampNeg) (ff ra.toNatClampNeg)) = 4 then (5 : Int32) else (1 : Int32)))))) + 2))) (pcJ := 94) (rest := []) (fun J => ?_) ?_
      · refine lv_if_eq (tgt := 93) hx hb dX3_examine_84 (by decide) (fun c_8 => ?_) (fun c_8 => ?_)
        · refine lv_iload_n hx hb dX3_examine_93 rfl (lv_at hl 0 rfl) ?_
          exact J _ (by rw [if_pos c_8]; try rfl)
        · refine lv_iload_n hx hb dX3_examine_87 rfl (lv_at hl 0 rfl) ?_
          refine lv_iconst (v := 2) hx hb dX3_examine_88 (by decide) ?_
          refine lv_iadd hx hb dX3_examine_89 ?_
          refine lv_goto (tgt := 94) hx hb dX3_examine_90 (by decide) ?_
          exact J _ (by rw [if_neg c_8]; try rfl)
      have hw : M_examine tf ff ra = ((if bI (M_minus (tf ra.toNatClampNeg)) = 0 then (if (M_kind (tf ra.toNatClampNeg) (ff ra.toNatClampNeg)) = 0 then (8 : Int32) else (if (M_kind (tf ra.toNatClampNeg) (ff ra.toNatClampNeg)) = 1 then (12 : Int32) else (if (M_kind (tf ra.toNatClampNeg) (ff ra.toNatClampNeg)) = 2 then (0 : Int32) else (if (M_kind (tf ra.toNatClampNeg) (ff ra.toNatClampNeg)) = 3 then (4 : Int32) else (if (M_kind (tf ra.toNatClampNeg) (ff ra.toNatClampNeg)) = 4 then (5 : Int32) else (1 : Int32)))))) else ((if (M_kind (tf ra.toNatClampNeg) (ff ra.toNatClampNeg)) = 0 then (8 : Int32) else (if (M_kind (tf ra.toNatClampNeg) (ff ra.toNatClampNeg)) = 1 then (12 : Int32) else (if (M_kind (tf ra.toNatClampNeg) (ff ra.toNatClampNeg)) = 2 then (0 : Int32) else (if (M_kind (tf ra.toNatClampNeg) (ff ra.toNatClampNeg)) = 3 then (4 : Int32) else (if (M_kind (tf ra.toNatClampNeg) (ff ra.toNatClampNeg)) = 4 then (5 : Int32) else (1 : Int32)))))) + 2)), 0) := by unfold M_examine; rw [if_pos c_1]; try rfl
      exact W.iret hx hb hr (fun t9 ht hW => ⟨⟨_, (if bI (M_minus (tf ra.toNatClampNeg)) = 0 then (if (M_kind (tf ra.toNatClampNeg) (ff ra.toNatClampNeg)) = 0 then (8 : Int32) else (if (M_kind (tf ra.toNatClampNeg) (ff ra.toNatClampNeg)) = 1 then (12 : Int32) else (if (M_kind (tf ra.toNatClampNeg) (ff ra.toNatClampNeg)) = 2 then (0 : Int32) else (if (M_kind (tf ra.toNatClampNeg) (ff ra.toNatClampNeg)) = 3 then (4 : Int32) else (if (M_kind (tf ra.toNatClampNeg) (ff ra.toNatClampNeg)) = 4 then (5 : Int32) else (1 : Int32)))))) else ((if (M_kind (tf ra.toNatClampNeg) (ff ra.toNatClampNeg)) = 0 then (8 : Int32) else (if (M_kind (tf ra.toNatClampNeg) (ff ra.toNatClampNeg)) = 1 then (12 : Int32) else (if (M_kind (tf ra.toNatClampNeg) (ff ra.toNatClampNeg)) = 2 then (0 : Int32) else (if (M_kind (tf ra.toNatClampNeg) (ff ra.toNatClampNeg)) = 3 then (4 : Int32) else (if (M_kind (tf ra.toNatClampNeg) (ff ra.toNatClampNeg)) = 4 then (5 : Int32) else (1 : Int32)))))) + 2)), rfl, rfl, ⟨0, hw, by rw [ht]; exact hP, hD⟩⟩, hS.F ht⟩) hS.2.2 dX3_examine_94
    · exact absurd c_2 (by decide)
  · refine lv_iconst (v := 1) hx hb dX3_examine_8 (by decide) ?_
    refine lv_goto (tgt := 13) hx hb dX3_examine_9 (by decide) ?_
    refine va_put (v := .int 1) (ty := .int) (C := RX3) (T := TX3) (N := 13) hx hb hts in_X3 tyX3 tyX3_ok nmX3 hown hK hP hD hS 0 rfl rfl 0 (by decide) w_1 (fun _ h9 => h9) rfl (tyX3_ok 0 (by decide)) rfl rfl (Nat.le_of_ble_eq_true rfl) dX3_examine_13 (fun H locs hP hD hS => ?_)
    have hP : va_P D vwCl (cMd h q1 q2 cA cB 1 ct tf ff td an qb pa aT aF dg fi lo) H := hP
    have hD : va_D A (cMd h q1 q2 cA cB 1 ct tf ff td an qb pa aT aF dg fi lo) := hD
    refine lv_aload_n hx hb dX3_examine_16 rfl (lv_at hl 0 rfl) ?_
    refine va_get (v := .int 1) (C := RX3) (T := TX3) (N := 13) hx hb hts in_X3 hown hK hP 0 rfl rfl 0 (by decide) w_1 (fun _ h9 => h9) rfl dX3_examine_17 ?_
    refine lv_if_le (tgt := 25) hx hb dX3_examine_20 (by decide) (fun c_9 => ?_) (fun c_9 => ?_)
    · exact absurd c_9 (by decide)
    · refine lv_iconst (v := 0) hx hb dX3_examine_23 (by decide) ?_
      have hw : M_examine tf ff ra = (0, 1) := by unfold M_examine; rw [if_neg c_1]; try rfl
      exact W.iret hx hb hr (fun t9 ht hW => ⟨⟨_, 0, rfl, rfl, ⟨1, hw, by rw [ht]; exact hP, hD⟩⟩, hS.F ht⟩) hS.2.2 dX3_examine_24
def M_told (td : Int32) (an : Bool) (qb : Int32) (pa : Bool) (wh : Int32) : Int32 × Int32 :=
  if bI (if wh < 0 then true else (if wh ≤ 3 then false else true)) ≤ 0 then ((if wh = 0 then td else (if wh = 1 then (if bI an = 0 then (0 : Int32) else (1 : Int32)) else (if wh = 2 then qb else (if bI pa = 0 then (0 : Int32) else (1 : Int32))))), bI (if wh < 0 then true else (if wh ≤ 3 then false else true)))
  else (0, bI (if wh < 0 then true else (if wh ≤ 3 then false else true)))
theorem kS_X3_told : yX3_told.cls ≠ "java/lang/invoke/MethodHandle" ∧ yX3_told.cls ≠ "java/lang/invoke/VarHandle" ∧ (parseMethodDescriptor yX3_told.desc).map (fun d => d.parameters.length) = some 1 := by decide +kernel
theorem kV_X3_told : yX3_told.cls = RX3 ∧ yX3_told.cls ≠ "java/lang/invoke/MethodHandle" ∧ yX3_told.cls ≠ "java/lang/invoke/VarHandle" ∧ (parseMethodDescriptor yX3_told.desc).map (fun d => d.parameters.length) = some 1 := ⟨rfl, kS_X3_told⟩
set_option maxHeartbeats 4000000 in
set_option maxRecDepth 100000 in
theorem c_X3_told (l : Launch) (D : va_G) (h : Nat) (q1 : Nat) (q2 : Nat) (cA : ClassId) (cB : ClassId) (cd : Int32) (ct : Int32) (tf : Nat → Int32) (ff : Nat → Int64) (td : Int32) (an : Bool) (qb : Int32) (pa : Bool) (aT : Int32) (aF : Int64) (dg : Int64) (fi : Int32) (lo : Bool) (wh : Int32) (sz : Nat) : Met l yX3_told wsX3_told ({ frames := 0, cells := 0, slots := 0, locals := 0 } : Room) (va_Pc [.ref h, .int wh] (MMB D (tRS cA cB) (cMd h q1 q2 cA cB cd ct tf ff td an qb pa aT aF dg fi lo) sz)) (va_Qi (fun (r u : Int32) => r = u) (fun u t => ∃ (w_cd : Int32), M_told td an qb pa wh = (u, w_cd) ∧ va_P D vwCl (cMd h q1 q2 cA cB w_cd ct tf ff td an qb pa aT aF dg fi lo) t.heap ∧ va_D (va_A (cMd h q1 q2 cA cB cd ct tf ff td an qb pa aT aF dg fi lo) sz) (cMd h q1 q2 cA cB w_cd ct tf ff td an qb pa aT aF dg fi lo)) (va_A (cMd h q1 q2 cA cB cd ct tf ff td an qb pa aT aF dg fi lo) sz)) 0 0 (va_A (cMd h q1 q2 cA cB cd ct tf ff td an qb pa aT aF dg fi lo) sz) := by
  refine Met.ofW (cc := cX3_told) (maxL := 2) (ret := (some .int)) (by decide) rfl ?_
  intro p e s m args below meth c s₁ B hml hv
  obtain ⟨rfl, hsz, hP, hK, hD0⟩ := hv
  have hx := B.exec
  have hb := B.bytes
  have hr := B.returns
  have hts := atoms_spec (ws := wsX3_told) B.pre
  have hown : s.vm.findClass RX3 = some m.cls := findClass_of_methodNamed B.named
  have hlocks := B.notSynchronized
  have w_1 := hts (.fieldLink RX3 21 "RealStepsModel" "code" "I") (by decide +kernel)
  have in_X3 : ∀ w ∈ wsX30, w ∈ wsX3_told := by decide +kernel
  have w_3 := hts (.fieldLink RX3 139 "RealStepsModel" "partial" "Z") (by decide +kernel)
  have w_4 := hts (.fieldLink RX3 136 "RealStepsModel" "quotient" "I") (by decide +kernel)
  have w_5 := hts (.fieldLink RX3 68 "RealStepsModel" "answered" "Z") (by decide +kernel)
  have w_6 := hts (.fieldLink RX3 72 "RealStepsModel" "told" "I") (by decide +kernel)
  subst hsz
  have hD := hD0.self (sz := s.heap.size)
  generalize hAe : va_A (cMd h q1 q2 cA cB cd ct tf ff td an qb pa aT aF dg fi lo) s.heap.size = A at hD ⊢
  have hA : ∀ q : Nat, s.heap.size ≤ q → A q := fun q h => by rw [← hAe]; exact Or.inr h
  have hS : va_S A s.heap s.heap [] := va_S.rf
  have hP : va_P D vwCl (cMd h q1 q2 cA cB cd ct tf ff td an qb pa aT aF dg fi lo) s.heap := hP
  have hl := lv_entry ([.ref h, .int wh]) (n := 2) (Nat.le_of_ble_eq_true rfl)
  rw [lg_entry_eq]
  generalize (lg_sl ([.ref h, .int wh]) ++ List.replicate (2 - (lg_sl ([.ref h, .int wh])).length) Slot.unset).toArray = ls at hl ⊢
  have hl : lv_has ls 2 [(0, .ref h), (1, .int wh)] := hl
  refine lv_aload_n hx hb dX3_told_0 rfl (lv_at hl 0 rfl) ?_
  refine lv_iload_n hx hb dX3_told_1 rfl (lv_at hl 1 rfl) ?_
  refine q_cut (v := bI (if wh < 0 then true else (if wh ≤ 3 then false else true))) (pcJ := 15) (rest := [.ref h]) (fun J => ?_) ?_
  · refine lv_if_lt (tgt := 10) hx hb dX3_told_2 (by decide) (fun c_1 => ?_) (fun c_1 => ?_)
    · refine lv_iconst (v := 1) hx hb dX3_told_10 (by decide) ?_
      refine lv_goto (tgt := 15) hx hb dX3_told_11 (by decide) ?_
      exact J _ (by rw [if_pos c_1]; try rfl)
    · refine lv_iload_n hx hb dX3_told_5 rfl (lv_at hl 1 rfl) ?_
      refine lv_iconst (v := 3) hx hb dX3_told_6 (by decide) ?_
      refine lv_icmp_le (tgt := 14) hx hb dX3_told_7 (by decide) (fun c_2 => ?_) (fun c_2 => ?_)
      · refine lv_iconst (v := 0) hx hb dX3_told_14 (by decide) ?_
        exact J _ (by rw [if_neg c_1, if_pos c_2]; try rfl)
      · refine lv_iconst (v := 1) hx hb dX3_told_10 (by decide) ?_
        refine lv_goto (tgt := 15) hx hb dX3_told_11 (by decide) ?_
        exact J _ (by rw [if_neg c_1, if_neg c_2]; try rfl)
  refine va_put (v := .int (bI (if wh < 0 then true else (if wh ≤ 3 then false else true)))) (ty := .int) (C := RX3) (T := TX3) (N := 13) hx hb hts in_X3 tyX3 tyX3_ok nmX3 hown hK hP hD hS 0 rfl rfl 0 (by decide) w_1 (fun _ h9 => h9) rfl (tyX3_ok 0 (by decide)) rfl rfl (Nat.le_of_ble_eq_true rfl) dX3_told_15 (fun H locs hP hD hS => ?_)
  have hP : va_P D vwCl (cMd h q1 q2 cA cB (bI (if wh < 0 then true else (if wh ≤ 3 then false else true))) ct tf ff td an qb pa aT aF dg fi lo) H := hP
  have hD : va_D A (cMd h q1 q2 cA cB (bI (if wh < 0 then true else (if wh ≤ 3 then false else true))) ct tf ff td an qb pa aT aF dg fi lo) := hD
  refine lv_aload_n hx hb dX3_told_18 rfl (lv_at hl 0 rfl) ?_
  refine va_get (v := .int (bI (if wh < 0 then true else (if wh ≤ 3 then false else true)))) (C := RX3) (T := TX3) (N := 13) hx hb hts in_X3 hown hK hP 0 rfl rfl 0 (by decide) w_1 (fun _ h9 => h9) rfl dX3_told_19 ?_
  refine lv_if_le (tgt := 27) hx hb dX3_told_22 (by decide) (fun c_3 => ?_) (fun c_3 => ?_)
  · refine lv_iload_n hx hb dX3_told_27 rfl (lv_at hl 1 rfl) ?_
    refine q_cut (v := (if wh = 0 then td else (if wh = 1 then (if bI an = 0 then (0 : Int32) else (1 : Int32)) else (if wh = 2 then qb else (if bI pa = 0 then (0 : Int32) else (1 : Int32)))))) (pcJ := 82) (rest := []) (fun J => ?_) ?_
    · refine lv_if_ne (tgt := 38) hx hb dX3_told_28 (by decide) (fun c_4 => ?_) (fun c_4 => ?_)
      · refine lv_iload_n hx hb dX3_told_38 rfl (lv_at hl 1 rfl) ?_
        refine lv_iconst (v := 1) hx hb dX3_told_39 (by decide) ?_
        refine lv_icmp_ne (tgt := 58) hx hb dX3_told_40 (by decide) (fun c_5 => ?_) (fun c_5 => ?_)
        · refine lv_iload_n hx hb dX3_told_58 rfl (lv_at hl 1 rfl) ?_
          refine lv_iconst (v := 2) hx hb dX3_told_59 (by decide) ?_
          refine lv_icmp_ne (tgt := 70) hx hb dX3_told_60 (by decide) (fun c_6 => ?_) (fun c_6 => ?_)
          · refine lv_aload_n hx hb dX3_told_70 rfl (lv_at hl 0 rfl) ?_
            refine va_get (v := .int (bI pa)) (C := RX3) (T := TX3) (N := 13) hx hb hts in_X3 hown hK hP 0 rfl rfl 7 (by decide) w_3 (fun _ h9 => h9) rfl dX3_told_71 ?_
            refine lv_if_eq (tgt := 81) hx hb dX3_told_74 (by decide) (fun c_7 => ?_) (fun c_7 => ?_)
            · refine lv_iconst (v := 0) hx hb dX3_told_81 (by decide) ?_
              exact J _ (by rw [if_neg c_4, if_neg c_5, if_neg c_6, if_pos c_7]; try rfl)
            · refine lv_iconst (v := 1) hx hb dX3_told_77 (by decide) ?_
              refine lv_goto (tgt := 82) hx hb dX3_told_78 (by decide) ?_
              exact J _ (by rw [if_neg c_4, if_neg c_5, if_neg c_6, if_neg c_7]; try rfl)
          · refine lv_aload_n hx hb dX3_told_63 rfl (lv_at hl 0 rfl) ?_
            refine va_get (v := .int qb) (C := RX3) (T := TX3) (N := 13) hx hb hts in_X3 hown hK hP 0 rfl rfl 6 (by decide) w_4 (fun _ h9 => h9) rfl dX3_told_64 ?_
            refine lv_goto (tgt := 82) hx hb dX3_told_67 (by decide) ?_
            exact J _ (by rw [if_neg c_4, if_neg c_5, if_pos c_6]; try rfl)
        · refine lv_aload_n hx hb dX3_told_43 rfl (lv_at hl 0 rfl) ?_
          refine va_get (v := .int (bI an)) (C := RX3) (T := TX3) (N := 13) hx hb hts in_X3 hown hK hP 0 rfl rfl 5 (by decide) w_5 (fun _ h9 => h9) rfl dX3_told_44 ?_
          refine lv_if_eq (tgt := 54) hx hb dX3_told_47 (by decide) (fun c_8 => ?_) (fun c_8 => ?_)
          · refine lv_iconst (v := 0) hx hb dX3_told_54 (by decide) ?_
            refine lv_goto (tgt := 82) hx hb dX3_told_55 (by decide) ?_
            exact J _ (by rw [if_neg c_4, if_pos c_5, if_pos c_8]; try rfl)
          · refine lv_iconst (v := 1) hx hb dX3_told_50 (by decide) ?_
            refine lv_goto (tgt := 82) hx hb dX3_told_51 (by decide) ?_
            exact J _ (by rw [if_neg c_4, if_pos c_5, if_neg c_8]; try rfl)
      · refine lv_aload_n hx hb dX3_told_31 rfl (lv_at hl 0 rfl) ?_
        refine va_get (v := .int td) (C := RX3) (T := TX3) (N := 13) hx hb hts in_X3 hown hK hP 0 rfl rfl 4 (by decide) w_6 (fun _ h9 => h9) rfl dX3_told_32 ?_
        refine lv_goto (tgt := 82) hx hb dX3_told_35 (by decide) ?_
        exact J _ (by rw [if_pos c_4]; try rfl)
    have hw : M_told td an qb pa wh = ((if wh = 0 then td else (if wh = 1 then (if bI an = 0 then (0 : Int32) else (1 : Int32)) else (if wh = 2 then qb else (if bI pa = 0 then (0 : Int32) else (1 : Int32))))), bI (if wh < 0 then true else (if wh ≤ 3 then false else true))) := by unfold M_told; rw [if_pos c_3]; try rfl
    exact W.iret hx hb hr (fun t9 ht hW => ⟨⟨_, (if wh = 0 then td else (if wh = 1 then (if bI an = 0 then (0 : Int32) else (1 : Int32)) else (if wh = 2 then qb else (if bI pa = 0 then (0 : Int32) else (1 : Int32))))), rfl, rfl, ⟨bI (if wh < 0 then true else (if wh ≤ 3 then false else true)), hw, by rw [ht]; exact hP, hD⟩⟩, hS.F ht⟩) hS.2.2 dX3_told_82
  · refine lv_iconst (v := 0) hx hb dX3_told_25 (by decide) ?_
    have hw : M_told td an qb pa wh = (0, bI (if wh < 0 then true else (if wh ≤ 3 then false else true))) := by unfold M_told; rw [if_neg c_3]; try rfl
    exact W.iret hx hb hr (fun t9 ht hW => ⟨⟨_, 0, rfl, rfl, ⟨bI (if wh < 0 then true else (if wh ≤ 3 then false else true)), hw, by rw [ht]; exact hP, hD⟩⟩, hS.F ht⟩) hS.2.2 dX3_told_26
