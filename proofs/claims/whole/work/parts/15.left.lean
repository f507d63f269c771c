def R_divL (dv : Int64) (sh : Int32) : Nat → Int64 → Int32 → Int32 → Int64 × Int32 × Int32
  | 0, v1, v2, v3 => (v1, v2, v3)
  | n + 1, v1, v2, v3 => if sh ≤ v3 then ((v1, v2, v3))
    else if bI (if v1 < 0 then true else false) = 0 then (if (J_cmpU (jlshl v1 1) dv) < 0 then (R_divL dv sh n (jlshl v1 1) ((v2 <<< (1 &&& 31)) &&& 7) (v3 + 1))
      else R_divL dv sh n ((jlshl v1 1) - dv) (((v2 <<< (1 &&& 31)) &&& 7) ||| 1) (v3 + 1))
    else R_divL dv sh n ((jlshl v1 1) - dv) (((v2 <<< (1 &&& 31)) &&& 7) ||| 1) (v3 + 1)
theorem R_divL_S (dv : Int64) (sh : Int32) (n : Nat) (v1 : Int64) (v2 : Int32) (v3 : Int32) : R_divL dv sh (n + 1) v1 v2 v3 = (if sh ≤ v3 then ((v1, v2, v3))
    else if bI (if v1 < 0 then true else false) = 0 then (if (J_cmpU (jlshl v1 1) dv) < 0 then (R_divL dv sh n (jlshl v1 1) ((v2 <<< (1 &&& 31)) &&& 7) (v3 + 1))
      else R_divL dv sh n ((jlshl v1 1) - dv) (((v2 <<< (1 &&& 31)) &&& 7) ||| 1) (v3 + 1))
    else R_divL dv sh n ((jlshl v1 1) - dv) (((v2 <<< (1 &&& 31)) &&& 7) ||| 1) (v3 + 1)) := rfl
def R_divide (dd : Int64) (dv : Int64) (sh : Int32) : Int64 × Int32 :=
  if (J_cmpU dd dv) < 0 then (tup3 (R_divL dv sh (sh.toInt.toNat + 1) dd 0 0) (fun v1 v2 v3 =>
      (v1, v2)))
  else (tup3 (R_divL dv sh (sh.toInt.toNat + 1) (dd - dv) 1 0) (fun v1 v2 v3 =>
      (v1, v2)))
theorem kS_X2_divide : yX2_divide.cls ≠ "java/lang/invoke/MethodHandle" ∧ yX2_divide.cls ≠ "java/lang/invoke/VarHandle" ∧ (parseMethodDescriptor yX2_divide.desc).map (fun d => d.parameters.length) = some 3 := by decide +kernel
theorem kV_X2_divide : yX2_divide.cls = RX2 ∧ yX2_divide.cls ≠ "java/lang/invoke/MethodHandle" ∧ yX2_divide.cls ≠ "java/lang/invoke/VarHandle" ∧ (parseMethodDescriptor yX2_divide.desc).map (fun d => d.parameters.length) = some 3 := ⟨rfl, kS_X2_divide⟩
set_option maxHeartbeats 4000000 in
set_option maxRecDepth 100000 in
theorem c_X2_divide (l : Launch) (D : va_G) (ad : Nat → Nat) (h : Nat) (q1 : Nat) (q2 : Nat) (cA : ClassId) (cB : ClassId) (tf : Nat → Int32) (ff : Nat → Int64) (cw : Int32) (td : Int32) (an : Bool) (qb : Int32) (pa : Bool) (dd : Int64) (dv : Int64) (sh : Int32) (sz : Nat) : Met l yX2_divide wsX2_divide ({ frames := 2, cells := 0, slots := 0, locals := 46 } : Room) (va_Pc [.ref h, .long dd, .long dv, .int sh] (MRB D ad h q1 q2 (tRS cA cB) (cRS h q1 q2 cA cB tf ff cw td an qb pa) [] sz)) (va_Ql (fun (r u : Int64) => r = u) (fun u t => ∃ (w_qb : Int32), R_divide dd dv sh = (u, w_qb) ∧ va_P D vwCl (cRS h q1 q2 cA cB tf ff cw td an w_qb pa) t.heap ∧ va_D (va_A (cRS h q1 q2 cA cB tf ff cw td an qb pa) sz) (cRS h q1 q2 cA cB tf ff cw td an w_qb pa)) (va_A (cRS h q1 q2 cA cB tf ff cw td an qb pa) sz)) 0 0 (va_A (cRS h q1 q2 cA cB tf ff cw td an qb pa) sz) := by
  refine Met.ofW (cc := cX2_divide) (maxL := 11) (ret := (some .long)) (by decide) rfl ?_
  intro p e s m args below meth c s₁ B hml hv
  obtain ⟨rfl, hsz, hP, hK, hD0, hR0, hRp, hE⟩ := hv
  have hx := B.exec
  have hb := B.bytes
  have hr := B.returns
  have hts := atoms_spec (ws := wsX2_divide) B.pre
  have hown : s.vm.findClass RX2 = some m.cls := findClass_of_methodNamed B.named
  have hlocks := B.notSynchronized
  have w_1 := hts (.fieldLink RX2 28 "RealSteps" "quotientBits" "I") (by decide +kernel)
  have in_X2 : ∀ w ∈ wsX20, w ∈ wsX2_divide := by decide +kernel
  subst hsz
  have hD := hD0.self (sz := s.heap.size)
  have hRA := rs_A hR0 hRp (e1 := .inr (1, [.ref q1, .ref q2, .int cw, .int td, .int (bI an), .int qb, .int (bI pa)])) (e2 := .inl (cA, 8, .inl tf)) (e3 := .inl (cB, 8, .inr (.inl ff)))
  generalize hAe : va_A (cRS h q1 q2 cA cB tf ff cw td an qb pa) s.heap.size = A at hD hE hRA ⊢
  have hA : ∀ q : Nat, s.heap.size ≤ q → A q := fun q h => by rw [← hAe]; exact Or.inr h
  have hS : va_S A s.heap s.heap [] := va_S.rf
  have hP : va_P D vwCl (cRS h q1 q2 cA cB tf ff cw td an qb pa) s.heap := hP
  have hl := lv_entry ([.ref h, .long dd, .long dv, .int sh]) (n := 11) (Nat.le_of_ble_eq_true rfl)
  rw [lg_entry_eq]
  generalize (lg_sl ([.ref h, .long dd, .long dv, .int sh]) ++ List.replicate (11 - (lg_sl ([.ref h, .long dd, .long dv, .int sh])).length) Slot.unset).toArray = ls at hl ⊢
  have hl : lv_has ls 11 [(0, .ref h), (1, .long dd), (3, .long dv), (5, .int sh)] := hl
  refine lv_lload_n hx hb dX2_divide_0 rfl (lv_at hl 1 rfl) ?_
  refine lv_lstore (lv' := [(6, .long dd), (0, .ref h), (1, .long dd), (3, .long dv), (5, .int sh)]) hx hb dX2_divide_1 hl (by decide) rfl (fun ls hl => ?_)
  refine lv_iconst (v := 0) hx hb dX2_divide_3 (by decide) ?_
  refine lv_istore (lv' := [(8, .int 0), (6, .long dd), (0, .ref h), (1, .long dd), (3, .long dv), (5, .int sh)]) hx hb dX2_divide_4 hl (by decide) rfl (fun ls hl => ?_)
  refine lv_lload hx hb dX2_divide_6 (lv_at hl 1 rfl) ?_
  refine lv_lload_n hx hb dX2_divide_8 rfl (lv_at hl 4 rfl) ?_
  refine vp_callSi (va_cr (va_runS (As := [.long dd, .long dv]) (rest := []) ⟨hx, hb, hml, hown, hts⟩ (c_J13_compareUnsigned_74951 l dd dv) (va_cwS 2 hts gX2_divide_J13_compareUnsigned_74951 rfl rfl rfl kS_J13_compareUnsigned_74951 ⟨Nat.le_of_ble_eq_true rfl, Nat.le_of_ble_eq_true rfl⟩) ⟨TB.blind, TB.pre⟩ rfl rfl hl.1 rfl (lv_room (Nat.le_of_ble_eq_true rfl)) dX2_divide_9 ⟨Nat.le_of_ble_eq_true rfl, Nat.le_of_ble_eq_true rfl⟩)) (fun r9 e9 => ?_)
  rw [e9]
  refine lv_if_lt (tgt := 24) hx hb dX2_divide_12 (by decide) (fun c_1 => ?_) (fun c_1 => ?_)
  · refine lv_iconst (v := 0) hx hb dX2_divide_24 (by decide) ?_
    refine lv_istore (lv' := [(9, .int 0), (8, .int 0), (6, .long dd), (0, .ref h), (1, .long dd), (3, .long dv), (5, .int sh)]) hx hb dX2_divide_25 hl (by decide) rfl (fun ls hl => ?_)
    have EXIT : ∀ (v1 : Int64) (v2 : Int32) (v3 : Int32), R_divL dv sh (sh.toInt.toNat + 1) dd 0 0 = (v1, v2, v3) → ∀ (H : Heap) (locs : List Loc) (ls : Array Slot), va_P D vwCl (cRS h q1 q2 cA cB tf ff cw td an qb pa) H → va_D A (cRS h q1 q2 cA cB tf ff cw td an qb pa) → va_S A s.heap H locs → lv_has ls 11 [(9, .int v3), (8, .int v2), (6, .long v1), (0, .ref h), (1, .long dd), (3, .long dv), (5, .int sh)] → W p l e (headSpec wsX2_divide ({ frames := 2, cells := 0, slots := 0, locals := 46 } : Room)).room s m ([.ref h, .long dd, .long dv, .int sh]).toArray below meth c H locs 0 0 (MQ below (va_Ql (fun (r u : Int64) => r = u) (fun u t => ∃ (w_qb : Int32), R_divide dd dv sh = (u, w_qb) ∧ va_P D vwCl (cRS h q1 q2 cA cB tf ff cw td an w_qb pa) t.heap ∧ va_D A (cRS h q1 q2 cA cB tf ff cw td an w_qb pa)) A) ([.ref h, .long dd, .long dv, .int sh]).toArray s 0 0 A) (F0 m 95 ls []) := by
      intro v1 v2 v3 e_2 H locs ls hP hD hS hl
      refine lv_aload_n hx hb dX2_divide_95 rfl (lv_at hl 3 rfl) ?_
      refine lv_iload hx hb dX2_divide_96 (lv_at hl 1 rfl) ?_
      refine va_put (v := .int v2) (ty := .int) (C := RX2) (T := TX2) (N := 7) hx hb hts in_X2 tyX2 tyX2_ok nmX2 hown hK hP hD hS 0 rfl rfl 5 (by decide) w_1 (fun _ h9 => h9) rfl (tyX2_ok 5 (by decide)) rfl rfl (Nat.le_of_ble_eq_true rfl) dX2_divide_98 (fun H locs hP hD hS => ?_)
      have hP : va_P D vwCl (cRS h q1 q2 cA cB tf ff cw td an v2 pa) H := hP
      have hD : va_D A (cRS h q1 q2 cA cB tf ff cw td an v2 pa) := hD
      refine lv_lload hx hb dX2_divide_101 (lv_at hl 2 rfl) ?_
      have hw : R_divide dd dv sh = (v1, v2) := by unfold R_divide; rw [if_pos c_1, tup3_e e_2]; try rfl
      exact W.lret hx hb hr (fun t9 ht hW => ⟨⟨_, v1, rfl, rfl, ⟨v2, hw, by rw [ht]; exact hP, hD⟩⟩, hS.F ht⟩) hS.2.2 dX2_divide_103
    have LOOP : ∀ (n : Nat) (v1 : Int64) (v2 : Int32) (v3 : Int32), (sh.toInt - v3.toInt).toNat < n → R_divL dv sh n v1 v2 v3 = R_divL dv sh (sh.toInt.toNat + 1) dd 0 0 → ∀ (H : Heap) (locs : List Loc) (ls : Array Slot), va_P D vwCl (cRS h q1 q2 cA cB tf ff cw td an qb pa) H → va_D A (cRS h q1 q2 cA cB tf ff cw td an qb pa) → va_S A s.heap H locs → lv_has ls 11 [(9, .int v3), (8, .int v2), (6, .long v1), (0, .ref h), (1, .long dd), (3, .long dv), (5, .int sh)] → W p l e (headSpec wsX2_divide ({ frames := 2, cells := 0, slots := 0, locals := 46 } : Room)).room s m ([.ref h, .long dd, .long dv, .int sh]).toArray below meth c H locs 0 0 (MQ below (va_Ql (fun (r u : Int64) => r = u) (fun u t => ∃ (w_qb : Int32), R_divide dd dv sh = (u, w_qb) ∧ va_P D vwCl (cRS h q1 q2 cA cB tf ff cw td an w_qb pa) t.heap ∧ va_D A (cRS h q1 q2 cA cB tf ff cw td an w_qb pa)) A) ([.ref h, .long dd, .long dv, .int sh]).toArray s 0 0 A) (F0 m 27 ls []) := by
      intro n
      induction n with
      | zero => intro v1 v2 v3 hmu; exact absurd hmu (Nat.not_lt_zero _)
      | succ n ih =>
        intro v1 v2 v3 hmu hF H locs ls hP hD hS hl
        refine lv_iload hx hb dX2_divide_27 (lv_at hl 0 rfl) ?_
        refine lv_iload hx hb dX2_divide_29 (lv_at hl 6 rfl) ?_
        refine lv_icmp_ge (tgt := 95) hx hb dX2_divide_31 (by decide) (fun c_3 => ?_) (fun c_3 => ?_)
        · rw [R_divL_S dv sh n v1 v2 v3] at hF; rw [if_pos c_3] at hF
          exact EXIT v1 v2 v3 hF.symm H locs ls hP hD hS (lv_sub hl [0, 1, 2, 3, 4, 5, 6] rfl)
        · refine lv_lload hx hb dX2_divide_34 (lv_at hl 2 rfl) ?_
          refine lv_lconst (v := 0) hx hb dX2_divide_36 (by decide) ?_
          refine q_cut (v := bI (if v1 < 0 then true else false)) (pcJ := 46) (rest := []) (fun J => ?_) ?_
          · refine q_cl_ge (tgt := 45) hx hb dX2_divide_37 dX2_divide_38 (by decide) (fun c_4 => ?_) (fun c_4 => ?_)
            · refine lv_iconst (v := 0) hx hb dX2_divide_45 (by decide) ?_
              exact J _ (by rw [if_neg c_4]; try rfl)
            · refine lv_iconst (v := 1) hx hb dX2_divide_41 (by decide) ?_
              refine lv_goto (tgt := 46) hx hb dX2_divide_42 (by decide) ?_
              exact J _ (by rw [if_pos c_4]; try rfl)
          refine lv_istore (lv' := [(10, .int (bI (if v1 < 0 then true else false))), (9, .int v3), (8, .int v2), (6, .long v1), (0, .ref h), (1, .long dd), (3, .long dv), (5, .int sh)]) hx hb dX2_divide_46 hl (by decide) rfl (fun ls hl => ?_)
          refine lv_lload hx hb dX2_divide_48 (lv_at hl 3 rfl) ?_
          refine lv_iconst (v := 1) hx hb dX2_divide_50 (by decide) ?_
          refine lv_lshl (v := (jlshl v1 1)) hx hb dX2_divide_51 rfl ?_
          refine lv_lstore (lv' := [(6, .long (jlshl v1 1)), (10, .int (bI (if v1 < 0 then true else false))), (9, .int v3), (8, .int v2), (0, .ref h), (1, .long dd), (3, .long dv), (5, .int sh)]) hx hb dX2_divide_52 hl (by decide) rfl (fun ls hl => ?_)
          refine lv_iload hx hb dX2_divide_54 (lv_at hl 3 rfl) ?_
          refine lv_iconst (v := 1) hx hb dX2_divide_56 (by decide) ?_
          refine lv_ishl hx hb dX2_divide_57 ?_
          refine lv_bipush (v := 7) hx hb dX2_divide_58 (by decide) ?_
          refine lv_iand hx hb dX2_divide_60 ?_
          refine lv_istore (lv' := [(8, .int ((v2 <<< (1 &&& 31)) &&& 7)), (6, .long (jlshl v1 1)), (10, .int (bI (if v1 < 0 then true else false))), (9, .int v3), (0, .ref h), (1, .long dd), (3, .long dv), (5, .int sh)]) hx hb dX2_divide_61 hl (by decide) rfl (fun ls hl => ?_)
          refine lv_iload hx hb dX2_divide_63 (lv_at hl 2 rfl) ?_
          refine lv_if_ne (tgt := 77) hx hb dX2_divide_65 (by decide) (fun c_5 => ?_) (fun c_5 => ?_)
          · refine lv_lload hx hb dX2_divide_77 (lv_at hl 1 rfl) ?_
            refine lv_lload_n hx hb dX2_divide_79 rfl (lv_at hl 6 rfl) ?_
            refine lv_lsub hx hb dX2_divide_80 ?_
            refine lv_lstore (lv' := [(6, .long ((jlshl v1 1) - dv)), (8, .int ((v2 <<< (1 &&& 31)) &&& 7)), (10, .int (bI (if v1 < 0 then true else false))), (9, .int v3), (0, .ref h), (1, .long dd), (3, .long dv), (5, .int sh)]) hx hb dX2_divide_81 hl (by decide) rfl (fun ls hl => ?_)
            refine lv_iload hx hb dX2_divide_83 (lv_at hl 1 rfl) ?_
            refine lv_iconst (v := 1) hx hb dX2_divide_85 (by decide) ?_
            refine lv_ior hx hb dX2_divide_86 ?_
            refine lv_istore (lv' := [(8, .int (((v2 <<< (1 &&& 31)) &&& 7) ||| 1)), (6, .long ((jlshl v1 1) - dv)), (10, .int (bI (if v1 < 0 then true else false))), (9, .int v3), (0, .ref h), (1, .long dd), (3, .long dv), (5, .int sh)]) hx hb dX2_divide_87 hl (by decide) rfl (fun ls hl => ?_)
            refine lv_iinc (v := (v3 + 1)) (lv' := [(9, .int (v3 + 1)), (8, .int (((v2 <<< (1 &&& 31)) &&& 7) ||| 1)), (6, .long ((jlshl v1 1) - dv)), (10, .int (bI (if v1 < 0 then true else false))), (0, .ref h), (1, .long dd), (3, .long dv), (5, .int sh)]) hx hb dX2_divide_89 hl (k := 3) rfl rfl (by decide) rfl (fun ls hl => ?_)
            refine lv_goto (tgt := 27) hx hb dX2_divide_92 (by decide) ?_
            exact ih ((jlshl v1 1) - dv) (((v2 <<< (1 &&& 31)) &&& 7) ||| 1) (v3 + 1) (mu_go (mu_inc c_3) hmu) (by rw [← hF, R_divL_S dv sh n v1 v2 v3, if_neg c_3, if_neg c_5]) H locs ls hP hD hS (lv_sub hl [0, 1, 2, 4, 5, 6, 7] rfl)
          · refine lv_lload hx hb dX2_divide_68 (lv_at hl 1 rfl) ?_
            refine lv_lload_n hx hb dX2_divide_70 rfl (lv_at hl 6 rfl) ?_
            refine vp_callSi (va_cr (va_runS (As := [.long (jlshl v1 1), .long dv]) (rest := []) ⟨hx, hb, hml, hown, hts⟩ (c_J13_compareUnsigned_74951 l (jlshl v1 1) dv) (va_cwS 2 hts gX2_divide_J13_compareUnsigned_74951 rfl rfl rfl kS_J13_compareUnsigned_74951 ⟨Nat.le_of_ble_eq_true rfl, Nat.le_of_ble_eq_true rfl⟩) ⟨TB.blind, TB.pre⟩ rfl rfl hl.1 rfl (lv_room (Nat.le_of_ble_eq_true rfl)) dX2_divide_71 ⟨Nat.le_of_ble_eq_true rfl, Nat.le_of_ble_eq_true rfl⟩)) (fun r9 e9 => ?_)
            rw [e9]
            refine lv_if_lt (tgt := 89) hx hb dX2_divide_74 (by decide) (fun c_6 => ?_) (fun c_6 => ?_)
            · refine lv_iinc (v := (v3 + 1)) (lv' := [(9, .int (v3 + 1)), (8, .int ((v2 <<< (1 &&& 31)) &&& 7)), (6, .long (jlshl v1 1)), (10, .int (bI (if v1 < 0 then true else false))), (0, .ref h), (1, .long dd), (3, .long dv), (5, .int sh)]) hx hb dX2_divide_89 hl (k := 3) rfl rfl (by decide) rfl (fun ls hl => ?_)
              refine lv_goto (tgt := 27) hx hb dX2_divide_92 (by decide) ?_
              exact ih (jlshl v1 1) ((v2 <<< (1 &&& 31)) &&& 7) (v3 + 1) (mu_go (mu_inc c_3) hmu) (by rw [← hF, R_divL_S dv sh n v1 v2 v3, if_neg c_3, if_pos c_5, if_pos c_6]) H locs ls hP hD hS (lv_sub hl [0, 1, 2, 4, 5, 6, 7] rfl)
            · refine lv_lload hx hb dX2_divide_77 (lv_at hl 1 rfl) ?_
              refine lv_lload_n hx hb dX2_divide_79 rfl (lv_at hl 6 rfl) ?_
              refine lv_lsub hx hb dX2_divide_80 ?_
              refine lv_lstore (lv' := [(6, .long ((jlshl v1 1) - dv)), (8, .int ((v2 <<< (1 &&& 31)) &&& 7)), (10, .int (bI (if v1 < 0 then true else false))), (9, .int v3), (0, .ref h), (1, .long dd), (3, .long dv), (5, .int sh)]) hx hb dX2_divide_81 hl (by decide) rfl (fun ls hl => ?_)
              refine lv_iload hx hb dX2_divide_83 (lv_at hl 1 rfl) ?_
              refine lv_iconst (v := 1) hx hb dX2_divide_85 (by decide) ?_
              refine lv_ior hx hb dX2_divide_86 ?_
              refine lv_istore (lv' := [(8, .int (((v2 <<< (1 &&& 31)) &&& 7) ||| 1)), (6, .long ((jlshl v1 1) - dv)), (10, .int (bI (if v1 < 0 then true else false))), (9, .int v3), (0, .ref h), (1, .long dd), (3, .long dv), (5, .int sh)]) hx hb dX2_divide_87 hl (by decide) rfl (fun ls hl => ?_)
              refine lv_iinc (v := (v3 + 1)) (lv' := [(9, .int (v3 + 1)), (8, .int (((v2 <<< (1 &&& 31)) &&& 7) ||| 1)), (6, .long ((jlshl v1 1) - dv)), (10, .int (bI (if v1 < 0 then true else false))), (0, .ref h), (1, .long dd), (3, .long dv), (5, .int sh)]) hx hb dX2_divide_89 hl (k := 3) rfl rfl (by decide) rfl (fun ls hl => ?_)
              refine lv_goto (tgt := 27) hx hb dX2_divide_92 (by decide) ?_
              exact ih ((jlshl v1 1) - dv) (((v2 <<< (1 &&& 31)) &&& 7) ||| 1) (v3 + 1) (mu_go (mu_inc c_3) hmu) (by rw [← hF, R_divL_S dv sh n v1 v2 v3, if_neg c_3, if_pos c_5, if_neg c_6]) H locs ls hP hD hS (lv_sub hl [0, 1, 2, 4, 5, 6, 7] rfl)
    exact LOOP (sh.toInt.toNat + 1) dd 0 0 (mu_0 _) rfl s.heap _ ls hP hD hS (lv_sub hl [0, 1, 2, 3, 4, 5, 6] rfl)
  · refine lv_lload hx hb dX2_divide_15 (lv_at hl 1 rfl) ?_
    refine lv_lload_n hx hb dX2_divide_17 rfl (lv_at hl 4 rfl) ?_
    refine lv_lsub hx hb dX2_divide_18 ?_
    refine lv_lstore (lv' := [(6, .long (dd - dv)), (8, .int 0), (0, .ref h), (1, .long dd), (3, .long dv), (5, .int sh)]) hx hb dX2_divide_19 hl (by decide) rfl (fun ls hl => ?_)
    refine lv_iconst (v := 1) hx hb dX2_divide_21 (by decide) ?_
    refine lv_istore (lv' := [(8, .int 1), (6, .long (dd - dv)), (0, .ref h), (1, .long dd), (3, .long dv), (5, .int sh)]) hx hb dX2_divide_22 hl (by decide) rfl (fun ls hl => ?_)
    refine lv_iconst (v := 0) hx hb dX2_divide_24 (by decide) ?_
    refine lv_istore (lv' := [(9, .int 0), (8, .int 1), (6, .long (dd - dv)), (0, .ref h), (1, .long dd), (3, .long dv), (5, .int sh)]) hx hb dX2_divide_25 hl (by decide) rfl (fun ls hl => ?_)
    have EXIT : ∀ (v1 : Int64) (v2 : Int32) (v3 : Int32), R_divL dv sh (sh.toInt.toNat + 1) (dd - dv) 1 0 = (v1, v2, v3) → ∀ (H : Heap) (locs : List Loc) (ls : Array Slot), va_P D vwCl (cRS h q1 q2 cA cB tf ff cw td an qb pa) H → va_D A (cRS h q1 q2 cA cB tf ff cw td an qb pa) → va_S A s.heap H locs → lv_has ls 11 [(9, .int v3), (8, .int v2), (6, .long v1), (0, .ref h), (1, .long dd), (3, .long dv), (5, .int sh)] → W p l e (headSpec wsX2_divide ({ frames := 2, cells := 0, slots := 0, locals := 46 } : Room)).room s m ([.ref h, .long dd, .long dv, .int sh]).toArray below meth c H locs 0 0 (MQ below (va_Ql (fun (r u : Int64) => r = u) (fun u t => ∃ (w_qb : Int32), R_divide dd dv sh = (u, w_qb) ∧ va_P D vwCl (cRS h q1 q2 cA cB tf ff cw td an w_qb pa) t.heap ∧ va_D A (cRS h q1 q2 cA cB tf ff cw td an w_qb pa)) A) ([.ref h, .long dd, .long dv, .int sh]).toArray s 0 0 A) (F0 m 95 ls []) := by
      intro v1 v2 v3 e_7 H locs ls hP hD hS hl
      refine lv_aload_n hx hb dX2_divide_95 rfl (lv_at hl 3 rfl) ?_
      refine lv_iload hx hb dX2_divide_96 (lv_at hl 1 rfl) ?_
      refine va_put (v := .int v2) (ty := .int) (C := RX2) (T := TX2) (N := 7) hx hb hts in_X2 tyX2 tyX2_ok nmX2 hown hK hP hD hS 0 rfl rfl 5 (by decide) w_1 (fun _ h9 => h9) rfl (tyX2_ok 5 (by decide)) rfl rfl (Nat.le_of_ble_eq_true rfl) dX2_divide_98 (fun H locs hP hD hS => ?_)
      have hP : va_P D vwCl (cRS h q1 q2 cA cB tf ff cw td an v2 pa) H := hP
      have hD : va_D A (cRS h q1 q2 cA cB tf ff cw td an v2 pa) := hD
      refine lv_lload hx hb dX2_divide_101 (lv_at hl 2 rfl) ?_
      have hw : R_divide dd dv sh = (v1, v2) := by unfold R_divide; rw [if_neg c_1, tup3_e e_7]; try rfl
      exact W.lret hx hb hr (fun t9 ht hW => ⟨⟨_, v1, rfl, rfl, ⟨v2, hw, by rw [ht]; exact hP, hD⟩⟩, hS.F ht⟩) hS.2.2 dX2_divide_103
    have LOOP : ∀ (n : Nat) (v1 : Int64) (v2 : Int32) (v3 : Int32), (sh.toInt - v3.toInt).toNat < n → R_divL dv sh n v1 v2 v3 = R_divL dv sh (sh.toInt.toNat + 1) (dd - dv) 1 0 → ∀ (H : Heap) (locs : List Loc) (ls : Array Slot), va_P D vwCl (cRS h q1 q2 cA cB tf ff cw td an qb pa) H → va_D A (cRS h q1 q2 cA cB tf ff cw td an qb pa) → va_S A s.heap H locs → lv_has ls 11 [(9, .int v3), (8, .int v2), (6, .long v1), (0, .ref h), (1, .long dd), (3, .long dv), (5, .int sh)] → W p l e (headSpec wsX2_divide ({ frames := 2, cells := 0, slots := 0, locals := 46 } : Room)).room s m ([.ref h, .long dd, .long dv, .int sh]).toArray below meth c H locs 0 0 (MQ below (va_Ql (fun (r u : Int64) => r = u) (fun u t => ∃ (w_qb : Int32), R_divide dd dv sh = (u, w_qb) ∧ va_P D vwCl (cRS h q1 q2 cA cB tf ff cw td an w_qb pa) t.heap ∧ va_D A (cRS h q1 q2 cA cB tf ff cw td an w_qb pa)) A) ([.ref h, .long dd, .long dv, .int sh]).toArray s 0 0 A) (F0 m 27 ls []) := by
      intro n
      induction n with
      | zero => intro v1 v2 v3 hmu; exact absurd hmu (Nat.not_lt_zero _)
      | succ n ih =>
        intro v1 v2 v3 hmu hF H locs ls hP hD hS hl
        refine lv_iload hx hb dX2_divide_27 (lv_at hl 0 rfl) ?_
        refine lv_iload hx hb dX2_divide_29 (lv_at hl 6 rfl) ?_
        refine lv_icmp_ge (tgt := 95) hx hb dX2_divide_31 (by decide) (fun c_8 => ?_) (fun c_8 => ?_)
        · rw [R_divL_S dv sh n v1 v2 v3] at hF; rw [if_pos c_8] at hF
          exact EXIT v1 v2 v3 hF.symm H locs ls hP hD hS (lv_sub hl [0, 1, 2, 3, 4, 5, 6] rfl)
        · refine lv_lload hx hb dX2_divide_34 (lv_at hl 2 rfl) ?_
          refine lv_lconst (v := 0) hx hb dX2_divide_36 (by decide) ?_
          refine q_cut (v := bI (if v1 < 0 then true else false)) (pcJ := 46) (rest := []) (fun J => ?_) ?_
          · refine q_cl_ge (tgt := 45) hx hb dX2_divide_37 dX2_divide_38 (by decide) (fun c_9 => ?_) (fun c_9 => ?_)
            · refine lv_iconst (v := 0) hx hb dX2_divide_45 (by decide) ?_
              exact J _ (by rw [if_neg c_9]; try rfl)
            · refine lv_iconst (v := 1) hx hb dX2_divide_41 (by decide) ?_
              refine lv_goto (tgt := 46) hx hb dX2_divide_42 (by decide) ?_
              exact J _ (by rw [if_pos c_9]; try rfl)
          refine lv_istore (lv' := [(10, .int (bI (if v1 < 0 then true else false))), (9, .int v3), (8, .int v2), (6, .long v1), (0, .ref h), (1, .long dd), (3, .long dv), (5, .int sh)]) hx hb dX2_divide_46 hl (by decide) rfl (fun ls hl => ?_)
          refine lv_lload hx hb dX2_divide_48 (lv_at hl 3 rfl) ?_
          refine lv_iconst (v := 1) hx hb dX2_divide_50 (by decide) ?_
          refine lv_lshl (v := (jlshl v1 1)) hx hb dX2_divide_51 rfl ?_
          refine lv_lstore (lv' := [(6, .long (jlshl v1 1)), (10, .int (bI (if v1 < 0 then true else false))), (9, .int v3), (8, .int v2), (0, .ref h), (1, .long dd), (3, .long dv), (5, .int sh)]) hx hb dX2_divide_52 hl (by decide) rfl (fun ls hl => ?_)
          refine lv_iload hx hb dX2_divide_54 (lv_at hl 3 rfl) ?_
          refine lv_iconst (v := 1) hx hb dX2_divide_56 (by decide) ?_
          refine lv_ishl hx hb dX2_divide_57 ?_
          refine lv_bipush (v := 7) hx hb dX2_divide_58 (by decide) ?_
          refine lv_iand hx hb dX2_divide_60 ?_
          refine lv_istore (lv' := [(8, .int ((v2 <<< (1 &&& 31)) &&& 7)), (6, .long (jlshl v1 1)), (10, .int (bI (if v1 < 0 then true else false))), (9, .int v3), (0, .ref h), (1, .long dd), (3, .long dv), (5, .int sh)]) hx hb dX2_divide_61 hl (by decide) rfl (fun ls hl => ?_)
          refine lv_iload hx hb dX2_divide_63 (lv_at hl 2 rfl) ?_
          refine lv_if_ne (tgt := 77) hx hb dX2_divide_65 (by decide) (fun c_10 => ?_) (fun c_10 => ?_)
          · refine lv_lload hx hb dX2_divide_77 (lv_at hl 1 rfl) ?_
            refine lv_lload_n hx hb dX2_divide_79 rfl (lv_at hl 6 rfl) ?_
            refine lv_lsub hx hb dX2_divide_80 ?_
            refine lv_lstore (lv' := [(6, .long ((jlshl v1 1) - dv)), (8, .int ((v2 <<< (1 &&& 31)) &&& 7)), (10, .int (bI (if v1 < 0 then true else false))), (9, .int v3), (0, .ref h), (1, .long dd), (3, .long dv), (5, .int sh)]) hx hb dX2_divide_81 hl (by decide) rfl (fun ls hl => ?_)
            refine lv_iload hx hb dX2_divide_83 (lv_at hl 1 rfl) ?_
            refine lv_iconst (v := 1) hx hb dX2_divide_85 (by decide) ?_
            refine lv_ior hx hb dX2_divide_86 ?_
            refine lv_istore (lv' := [(8, .int (((v2 <<< (1 &&& 31)) &&& 7) ||| 1)), (6, .long ((jlshl v1 1) - dv)), (10, .int (bI (if v1 < 0 then true else false))), (9, .int v3), (0, .ref h), (1, .long dd), (3, .long dv), (5, .int sh)]) hx hb dX2_divide_87 hl (by decide) rfl (fun ls hl => ?_)
            refine lv_iinc (v := (v3 + 1)) (lv' := [(9, .int (v3 + 1)), (8, .int (((v2 <<< (1 &&& 31)) &&& 7) ||| 1)), (6, .long ((jlshl v1 1) - dv)), (10, .int (bI (if v1 < 0 then true else false))), (0, .ref h), (1, .long dd), (3, .long dv), (5, .int sh)]) hx hb dX2_divide_89 hl (k := 3) rfl rfl (by decide) rfl (fun ls hl => ?_)
            refine lv_goto (tgt := 27) hx hb dX2_divide_92 (by decide) ?_
            exact ih ((jlshl v1 1) - dv) (((v2 <<< (1 &&& 31)) &&& 7) ||| 1) (v3 + 1) (mu_go (mu_inc c_8) hmu) (by rw [← hF, R_divL_S dv sh n v1 v2 v3, if_neg c_8, if_neg c_10]) H locs ls hP hD hS (lv_sub hl [0, 1, 2, 4, 5, 6, 7] rfl)
          · refine lv_lload hx hb dX2_divide_68 (lv_at hl 1 rfl) ?_
            refine lv_lload_n hx hb dX2_divide_70 rfl (lv_at hl 6 rfl) ?_
            refine vp_callSi (va_cr (va_runS (As := [.long (jlshl v1 1), .long dv]) (rest := []) ⟨hx, hb, hml, hown, hts⟩ (c_J13_compareUnsigned_74951 l (jlshl v1 1) dv) (va_cwS 2 hts gX2_divide_J13_compareUnsigned_74951 rfl rfl rfl kS_J13_compareUnsigned_74951 ⟨Nat.le_of_ble_eq_true rfl, Nat.le_of_ble_eq_true rfl⟩) ⟨TB.blind, TB.pre⟩ rfl rfl hl.1 rfl (lv_room (Nat.le_of_ble_eq_true rfl)) dX2_divide_71 ⟨Nat.le_of_ble_eq_true rfl, Nat.le_of_ble_eq_true rfl⟩)) (fun r9 e9 => ?_)
            rw [e9]
            refine lv_if_lt (tgt := 89) hx hb dX2_divide_74 (by decide) (fun c_11 => ?_) (fun c_11 => ?_)
            · refine lv_iinc (v := (v3 + 1)) (lv' := [(9, .int (v3 + 1)), (8, .int ((v2 <<< (1 &&& 31)) &&& 7)), (6, .long (jlshl v1 1)), (10, .int (bI (if v1 < 0 then true else false))), (0, .ref h), (1, .long dd), (3, .long dv), (5, .int sh)]) hx hb dX2_divide_89 hl (k := 3) rfl rfl (by decide) rfl (fun ls hl => ?_)
              refine lv_goto (tgt := 27) hx hb dX2_divide_92 (by decide) ?_
              exact ih (jlshl v1 1) ((v2 <<< (1 &&& 31)) &&& 7) (v3 + 1) (mu_go (mu_inc c_8) hmu) (by rw [← hF, R_divL_S dv sh n v1 v2 v3, if_neg c_8, if_pos c_10, if_pos c_11]) H locs ls hP hD hS (lv_sub hl [0, 1, 2, 4, 5, 6, 7] rfl)
            · refine lv_lload hx hb dX2_divide_77 (lv_at hl 1 rfl) ?_
              refine lv_lload_n hx hb dX2_divide_79 rfl (lv_at hl 6 rfl) ?_
              refine lv_lsub hx hb dX2_divide_80 ?_
              refine lv_lstore (lv' := [(6, .long ((jlshl v1 1) - dv)), (8, .int ((v2 <<< (1 &&& 31)) &&& 7)), (10, .int (bI (if v1 < 0 then true else false))), (9, .int v3), (0, .ref h), (1, .long dd), (3, .long dv), (5, .int sh)]) hx hb dX2_divide_81 hl (by decide) rfl (fun ls hl => ?_)
              refine lv_iload hx hb dX2_divide_83 (lv_at hl 1 rfl) ?_
              refine lv_iconst (v := 1) hx hb dX2_divide_85 (by decide) ?_
              refine lv_ior hx hb dX2_divide_86 ?_
              refine lv_istore (lv' := [(8, .int (((v2 <<< (1 &&& 31)) &&& 7) ||| 1)), (6, .long ((jlshl v1 1) - dv)), (10, .int (bI (if v1 < 0 then true else false))), (9, .int v3), (0, .ref h), (1, .long dd), (3, .long dv), (5, .int sh)]) hx hb dX2_divide_87 hl (by decide) rfl (fun ls hl => ?_)
              refine lv_iinc (v := (v3 + 1)) (lv' := [(9, .int (v3 + 1)), (8, .int (((v2 <<< (1 &&& 31)) &&& 7) ||| 1)), (6, .long ((jlshl v1 1) - dv)), (10, .int (bI (if v1 < 0 then true else false))), (0, .ref h), (1, .long dd), (3, .long dv), (5, .int sh)]) hx hb dX2_divide_89 hl (k := 3) rfl rfl (by decide) rfl (fun ls hl => ?_)
              refine lv_goto (tgt := 27) hx hb dX2_divide_92 (by decide) ?_
              exact ih ((jlshl v1 1) - dv) (((v2 <<< (1 &&& 31)) &&& 7) ||| 1) (v3 + 1) (mu_go (mu_inc c_8) hmu) (by rw [← hF, R_divL_S dv sh n v1 v2 v3, if_neg c_8, if_pos c_10, if_neg c_11]) H locs ls hP hD hS (lv_sub hl [0, 1, 2, 4, 5, 6, 7] rfl)
    exact LOOP (sh.toInt.toNat + 1) (dd - dv) 1 0 (mu_0 _) rfl s.heap _ ls hP hD hS (lv_sub hl [0, 1, 2, 3, 4, 5, 6] rfl)
def R_leftOver (cw : Int32) (td : Int32) (tx : Int32) (fx : Int64) (ty : Int32) (fy : Int64) : Int32 × Int64 × Int32 × Int32 × Bool :=
  if bI (R_isOf ty fy 4) = 0 then (if bI (R_nought tx fx) = 0 then (if 0 ≤ ((R_exp tx fx) - (R_exp ty fy)) then (tup2 ((R_divide (R_norm fx) (R_norm fy) (if bI (if ((R_exp tx fx) - (R_exp ty fy)) ≤ 63 then false else true) = 0 then ((R_exp tx fx) - (R_exp ty fy)) else (63 : Int32)))) (fun v_16 oqb_17 =>
          tup3 ((R_make cw td (R_neg tx) v_16 (((R_exp tx fx) - 63) - (if bI (if ((R_exp tx fx) - (R_exp ty fy)) ≤ 63 then false else true) = 0 then ((R_exp tx fx) - (R_exp ty fy)) else (63 : Int32))))) (fun vt_20 vf_21 otd_22 =>
            (vt_20, vf_21, otd_22, oqb_17, (if ((R_exp tx fx) - (R_exp ty fy)) ≤ 63 then false else true)))))
      else (tup3 ((R_make cw td (R_neg tx) fx (R_unit tx))) (fun vt_25 vf_26 otd_27 =>
          (vt_25, vf_26, otd_27, 0, false))))
    else (tup3 ((R_make cw td (R_neg tx) fx (R_unit tx))) (fun vt_9 vf_10 otd_11 =>
        (vt_9, vf_10, otd_11, 0, false))))
  else (tup3 ((R_make cw td (R_neg tx) fx (R_unit tx))) (fun vt_3 vf_4 otd_5 =>
      (vt_3, vf_4, otd_5, 0, false)))
theorem kS_X2_leftOver : yX2_leftOver.cls ≠ "java/lang/invoke/MethodHandle" ∧ yX2_leftOver.cls ≠ "java/lang/invoke/VarHandle" ∧ (parseMethodDescriptor yX2_leftOver.desc).map (fun d => d.parameters.length) = some 2 := by decide +kernel
theorem kV_X2_leftOver : yX2_leftOver.cls = RX2 ∧ yX2_leftOver.cls ≠ "java/lang/invoke/MethodHandle" ∧ yX2_leftOver.cls ≠ "java/lang/invoke/VarHandle" ∧ (parseMethodDescriptor yX2_leftOver.desc).map (fun d => d.parameters.length) = some 2 := ⟨rfl, kS_X2_leftOver⟩
set_option maxHeartbeats 4000000 in
set_option maxRecDepth 100000 in
theorem c_X2_leftOver (l : Launch) (D : va_G) (ad : Nat → Nat) (h : Nat) (q1 : Nat) (q2 : Nat) (cA : ClassId) (cB : ClassId) (tf : Nat → Int32) (ff : Nat → Int64) (cw : Int32) (td : Int32) (an : Bool) (qb : Int32) (pa : Bool) (x : Nat) (tx : Int32) (fx : Int64) (y : Nat) (ty : Int32) (fy : Int64) (sz : Nat) : Met l yX2_leftOver wsX2_leftOver ({ frames := 7, cells := 1, slots := 2, locals := 181 } : Room) (va_Pc [.ref h, .ref x, .ref y] (MRB D ad h q1 q2 (tRS cA cB) (cRS h q1 q2 cA cB tf ff cw td an qb pa) [cReal x tx fx, cReal y ty fy] sz)) (va_Qr (fun (_ : Unit) => True) (fun _ a t => ∃ (w_t : Int32) (w_f : Int64) (w_td : Int32) (w_qb : Int32) (w_pa : Bool), R_leftOver cw td tx fx ty fy = (w_t, w_f, w_td, w_qb, w_pa) ∧ va_P D vwCl (cRS h q1 q2 cA cB tf ff cw w_td an w_qb w_pa) t.heap ∧ va_D (va_A (cRS h q1 q2 cA cB tf ff cw td an qb pa) sz) (cRS h q1 q2 cA cB tf ff cw w_td an w_qb w_pa) ∧ va_P D vwCl [cReal a w_t w_f] t.heap ∧ ap3 a h q1 q2) (va_A (cRS h q1 q2 cA cB tf ff cw td an qb pa) sz)) 1 2 (va_A (cRS h q1 q2 cA cB tf ff cw td an qb pa) sz) := by
  refine Met.ofW (cc := cX2_leftOver) (maxL := 8) (ret := (some (.object "RealSteps$Real"))) (by decide) rfl ?_
  intro p e s m args below meth c s₁ B hml hv
  obtain ⟨rfl, hsz, hP, hK, hD0, hR0, hRp, hE⟩ := hv
  have hx := B.exec
  have hb := B.bytes
  have hr := B.returns
  have hts := atoms_spec (ws := wsX2_leftOver) B.pre
  have hown : s.vm.findClass RX2 = some m.cls := findClass_of_methodNamed B.named
  have hlocks := B.notSynchronized
  have w_1 := hts (.fieldLink RX2 28 "RealSteps" "quotientBits" "I") (by decide +kernel)
  have in_X2 : ∀ w ∈ wsX20, w ∈ wsX2_leftOver := by decide +kernel
  have w_3 := hts (.fieldLink RX2 31 "RealSteps" "partial" "Z") (by decide +kernel)
  have w_4 := hts (.initialized RX1) (by decide +kernel)
  have w_5 := hts (.instanceMethod yX1_isNegative) (by decide +kernel)
  have w_6 := hts (.selects RX1 yX1_isNegative yX1_isNegative) (by decide +kernel)
  have w_7 := hts (.instanceMethod yX1_exponent) (by decide +kernel)
  have w_8 := hts (.selects RX1 yX1_exponent yX1_exponent) (by decide +kernel)
  have w_9 := hts (.fieldLink RX2 106 "RealSteps$Kind" "INFINITE" "LRealSteps$Kind;") (by decide +kernel)
  have w_10 := hts (.instanceMethod yX1_isOf) (by decide +kernel)
  have w_11 := hts (.selects RX1 yX1_isOf yX1_isOf) (by decide +kernel)
  have in_X1 : ∀ w ∈ wsX10, w ∈ wsX2_leftOver := by decide +kernel
  have w_13 := hts (.instanceMethod yX1_unit) (by decide +kernel)
  have w_14 := hts (.selects RX1 yX1_unit yX1_unit) (by decide +kernel)
  have w_15 := hts (.instanceMethod yX1_isNought) (by decide +kernel)
  have w_16 := hts (.selects RX1 yX1_isNought yX1_isNought) (by decide +kernel)
  have w_17 := hts (.instanceMethod yX1_normalised) (by decide +kernel)
  have w_18 := hts (.selects RX1 yX1_normalised yX1_normalised) (by decide +kernel)
  subst hsz
  have hD := hD0.self (sz := s.heap.size)
  have hRA := rs_A hR0 hRp (e1 := .inr (1, [.ref q1, .ref q2, .int cw, .int td, .int (bI an), .int qb, .int (bI pa)])) (e2 := .inl (cA, 8, .inl tf)) (e3 := .inl (cB, 8, .inr (.inl ff)))
  generalize hAe : va_A (cRS h q1 q2 cA cB tf ff cw td an qb pa) s.heap.size = A at hD hE hRA ⊢
  have hA : ∀ q : Nat, s.heap.size ≤ q → A q := fun q h => by rw [← hAe]; exact Or.inr h
  have hS : va_S A s.heap s.heap [] := va_S.rf
  have hP : va_P D vwCl (cRS h q1 q2 cA cB tf ff cw td an qb pa) s.heap := hP
  have hl := lv_entry ([.ref h, .ref x, .ref y]) (n := 8) (Nat.le_of_ble_eq_true rfl)
  rw [lg_entry_eq]
  generalize (lg_sl ([.ref h, .ref x, .ref y]) ++ List.replicate (8 - (lg_sl ([.ref h, .ref x, .ref y])).length) Slot.unset).toArray = ls at hl ⊢
  have hl : lv_has ls 8 [(0, .ref h), (1, .ref x), (2, .ref y)] := hl
  refine lv_aload_n hx hb dX2_leftOver_0 rfl (lv_at hl 0 rfl) ?_
  refine lv_iconst (v := 0) hx hb dX2_leftOver_1 (by decide) ?_
  refine va_put (v := .int 0) (ty := .int) (C := RX2) (T := TX2) (N := 7) hx hb hts in_X2 tyX2 tyX2_ok nmX2 hown hK hP hD hS 0 rfl rfl 5 (by decide) w_1 (fun _ h9 => h9) rfl (tyX2_ok 5 (by decide)) rfl rfl (Nat.le_of_ble_eq_true rfl) dX2_leftOver_2 (fun H locs hP hD hS => ?_)
  have hP : va_P D vwCl (cRS h q1 q2 cA cB tf ff cw td an 0 pa) H := hP
  have hD : va_D A (cRS h q1 q2 cA cB tf ff cw td an 0 pa) := hD
  refine lv_aload_n hx hb dX2_leftOver_5 rfl (lv_at hl 0 rfl) ?_
  refine lv_iconst (v := 0) hx hb dX2_leftOver_6 (by decide) ?_
  refine va_put (v := .int 0) (ty := .boolean) (C := RX2) (T := TX2) (N := 7) hx hb hts in_X2 tyX2 tyX2_ok nmX2 hown hK hP hD hS 0 rfl rfl 6 (by decide) w_3 (fun _ h9 => h9) rfl (tyX2_ok 6 (by decide)) rfl rfl (Nat.le_of_ble_eq_true rfl) dX2_leftOver_7 (fun H locs hP hD hS => ?_)
  have hP : va_P D vwCl (cRS h q1 q2 cA cB tf ff cw td an 0 false) H := hP
  have hD : va_D A (cRS h q1 q2 cA cB tf ff cw td an 0 false) := hD
  refine lv_aload_n hx hb dX2_leftOver_10 rfl (lv_at hl 1 rfl) ?_
  refine vp_callSi (va_cr (va_runVN (As := []) (rest := []) ⟨hx, hb, hml, hown, hts⟩ (c_X1_isNegative l D ad x tx fx) ⟨va_cnB 0 hts gX2_leftOver_X1_isNegative_n137 rfl rfl rfl (hE.2.1 _ (List.mem_of_getElem? (i := 2) rfl)) w_4 kS_X1_isNegative ⟨Nat.le_of_ble_eq_true rfl, Nat.le_of_ble_eq_true rfl⟩, w_5, w_6⟩ ⟨EB.blind, va_recv hK (ro_now hR0 hRA hS) (ci := 0) (q0 := 0) rfl rfl, EB.pre (hK.sub [] rfl) ((ro_now hR0 hRA hS).sub [0] rfl) hE hS⟩ rfl rfl hl.1 rfl (lv_room (Nat.le_of_ble_eq_true rfl)) dX2_leftOver_11 ⟨Nat.le_of_ble_eq_true rfl, Nat.le_of_ble_eq_true rfl⟩)) (fun r9 e9 => ?_)
  rw [e9]
  refine lv_istore_n (lv' := [(3, .int (bI (R_neg tx))), (0, .ref h), (1, .ref x), (2, .ref y)]) hx hb dX2_leftOver_14 rfl hl (by decide) rfl (fun ls hl => ?_)
  refine lv_aload_n hx hb dX2_leftOver_15 rfl (lv_at hl 2 rfl) ?_
  refine vp_callSi (va_cr (va_runVN (As := []) (rest := []) ⟨hx, hb, hml, hown, hts⟩ (c_X1_exponent l D ad x tx fx) ⟨va_cnB 0 hts gX2_leftOver_X1_exponent_n219 rfl rfl rfl (hE.2.1 _ (List.mem_of_getElem? (i := 3) rfl)) w_4 kS_X1_exponent ⟨Nat.le_of_ble_eq_true rfl, Nat.le_of_ble_eq_true rfl⟩, w_7, w_8⟩ ⟨EB.blind, va_recv hK (ro_now hR0 hRA hS) (ci := 0) (q0 := 0) rfl rfl, EB.pre (hK.sub [] rfl) ((ro_now hR0 hRA hS).sub [0] rfl) hE hS⟩ rfl rfl hl.1 rfl (lv_room (Nat.le_of_ble_eq_true rfl)) dX2_leftOver_16 ⟨Nat.le_of_ble_eq_true rfl, Nat.le_of_ble_eq_true rfl⟩)) (fun r9 e9 => ?_)
  rw [e9]
  refine lv_aload_n hx hb dX2_leftOver_19 rfl (lv_at hl 3 rfl) ?_
  refine vp_callSi (va_cr (va_runVN (As := []) (rest := [.int (R_exp tx fx)]) ⟨hx, hb, hml, hown, hts⟩ (c_X1_exponent l D ad y ty fy) ⟨va_cnB 0 hts gX2_leftOver_X1_exponent_n219 rfl rfl rfl (hE.2.1 _ (List.mem_of_getElem? (i := 3) rfl)) w_4 kS_X1_exponent ⟨Nat.le_of_ble_eq_true rfl, Nat.le_of_ble_eq_true rfl⟩, w_7, w_8⟩ ⟨EB.blind, va_recv hK (ro_now hR0 hRA hS) (ci := 0) (q0 := 1) rfl rfl, EB.pre (hK.sub [] rfl) ((ro_now hR0 hRA hS).sub [1] rfl) hE hS⟩ rfl rfl hl.1 rfl (lv_room (Nat.le_of_ble_eq_true rfl)) dX2_leftOver_20 ⟨Nat.le_of_ble_eq_true rfl, Nat.le_of_ble_eq_true rfl⟩)) (fun r9 e9 => ?_)
  rw [e9]
  refine lv_isub hx hb dX2_leftOver_23 ?_
  refine lv_istore (lv' := [(4, .int ((R_exp tx fx) - (R_exp ty fy))), (3, .int (bI (R_neg tx))), (0, .ref h), (1, .ref x), (2, .ref y)]) hx hb dX2_leftOver_24 hl (by decide) rfl (fun ls hl => ?_)
  refine lv_aload_n hx hb dX2_leftOver_26 rfl (lv_at hl 4 rfl) ?_
  refine va_gets (v := .ref (ad 4)) hx hb (hE.1.1 4 (by decide)).1 hS hown w_9 (fun _ h9 => h9) dX2_leftOver_27 ?_
  refine vp_callSi (va_cr (va_runVN (As := [.ref (ad 4)]) (rest := []) ⟨hx, hb, hml, hown, hts⟩ (c_X1_isOf l D ad y ty fy 4 (by decide)) ⟨va_cnB 1 hts gX2_leftOver_X1_isOf_n112 rfl rfl rfl (hE.2.1 _ (List.mem_of_getElem? (i := 0) rfl)) w_4 kS_X1_isOf ⟨Nat.le_of_ble_eq_true rfl, Nat.le_of_ble_eq_true rfl⟩, w_10, w_11⟩ ⟨EB.blind, va_recv hK (ro_now hR0 hRA hS) (ci := 0) (q0 := 1) rfl rfl, EB.pre (hK.sub [] rfl) ((ro_now hR0 hRA hS).sub [1] rfl) hE hS⟩ rfl rfl hl.1 rfl (lv_room (Nat.le_of_ble_eq_true rfl)) dX2_leftOver_30 ⟨Nat.le_of_ble_eq_true rfl, Nat.le_of_ble_eq_true rfl⟩)) (fun r9 e9 => ?_)
  rw [e9]
  refine lv_if_ne (tgt := 48) hx hb dX2_leftOver_33 (by decide) (fun c_1 => ?_) (fun c_1 => ?_)
  · refine lv_aload_n hx hb dX2_leftOver_48 rfl (lv_at hl 2 rfl) ?_
    refine lv_iload_n hx hb dX2_leftOver_49 rfl (lv_at hl 1 rfl) ?_
    refine lv_aload_n hx hb dX2_leftOver_50 rfl (lv_at hl 3 rfl) ?_
    refine va_getN (v := .long fx) (C := RX1) (T := TX1) (N := 2) hx hb hts in_X1 hown hK (ro_now hR0 hRA hS) 0 rfl rfl 1 (by decide) (va_Nw.use rfl (hE.2.1 (.fieldLinkNest RX2 150 "RealSteps$Real" "fraction" "J" RX2) (by decide))) (fun _ h9 => h9) rfl dX2_leftOver_51 ?_
    refine lv_aload_n hx hb dX2_leftOver_54 rfl (lv_at hl 3 rfl) ?_
    refine vp_callSi (va_cr (va_runVN (As := []) (rest := [.long fx, .int (bI (R_neg tx)), .ref h]) ⟨hx, hb, hml, hown, hts⟩ (c_X1_unit l D ad x tx fx) ⟨va_cnB 0 hts gX2_leftOver_X1_unit_n222 rfl rfl rfl (hE.2.1 _ (List.mem_of_getElem? (i := 4) rfl)) w_4 kS_X1_unit ⟨Nat.le_of_ble_eq_true rfl, Nat.le_of_ble_eq_true rfl⟩, w_13, w_14⟩ ⟨EB.blind, va_recv hK (ro_now hR0 hRA hS) (ci := 0) (q0 := 0) rfl rfl, EB.pre (hK.sub [] rfl) ((ro_now hR0 hRA hS).sub [0] rfl) hE hS⟩ rfl rfl hl.1 rfl (lv_room (Nat.le_of_ble_eq_true rfl)) dX2_leftOver_55 ⟨Nat.le_of_ble_eq_true rfl, Nat.le_of_ble_eq_true rfl⟩)) (fun r9 e9 => ?_)
    rw [e9]
    have hFc := va_free (wc := cRS h q1 q2 cA cB tf ff cw td an 0 false) hD hS hA [0, 1, 2] rfl
    refine va_callr (va_runV (As := [.int (bI (R_neg tx)), .long fx, .int (R_unit tx)]) (rest := []) ⟨hx, hb, hml, hown, hts⟩ (c_X2_make l D ad h q1 q2 cA cB tf ff cw td an 0 false (R_neg tx) fx (R_unit tx) H.size) (cwV 3 hts gX2_leftOver_X2_make rfl rfl rfl kV_X2_make ⟨Nat.le_of_ble_eq_true rfl, Nat.le_of_ble_eq_true rfl⟩) ⟨MRB.blind, va_recv hK hP (ci := 1) (q0 := 0) rfl rfl, MRB.pre hK hP hD vP_nil ap_nil hE hS hFc⟩ rfl rfl hl.1 rfl (lv_room (Nat.le_of_ble_eq_true rfl)) dX2_leftOver_58 ⟨Nat.le_of_ble_eq_true rfl, Nat.le_of_ble_eq_true rfl⟩) hS (fun q _ h9 => hFc q h9) hFc (fun u9 y_2 t9 H locs ht hvm hw hB hz1 hk1 hS => ?_)
    obtain ⟨vt_3, vf_4, otd_5, e_6, hP, hD9, hx_y_2, nx_y_2⟩ := hB
    rw [ht] at hP hx_y_2
    have hD : va_D A (cRS h q1 q2 cA cB tf ff cw otd_5 an 0 false) := hD9.weaken (fun _ _ _ h => hFc _ h)
    have hw : R_leftOver cw td tx fx ty fy = (vt_3, vf_4, otd_5, 0, false) := by unfold R_leftOver; rw [if_neg c_1, tup3_e e_6]; try rfl
    exact W.aret hx hb hr (Or.inl ⟨_, rfl⟩) (Or.inr ⟨_, rfl⟩) (fun t9 ht hW => ⟨⟨(), y_2, rfl, trivial, ⟨vt_3, vf_4, otd_5, 0, false, hw, by rw [ht]; exact hP, hD, by rw [ht]; exact hx_y_2, nx_y_2⟩⟩, hS.F ht⟩) hS.2.2 dX2_leftOver_61
  · refine lv_aload_n hx hb dX2_leftOver_36 rfl (lv_at hl 3 rfl) ?_
    refine vp_callSi (va_cr (va_runVN (As := []) (rest := []) ⟨hx, hb, hml, hown, hts⟩ (c_X1_isNought l D ad x tx fx) ⟨va_cnB 0 hts gX2_leftOver_X1_isNought_n96 rfl rfl rfl (hE.2.1 _ (List.mem_of_getElem? (i := 8) rfl)) w_4 kS_X1_isNought ⟨Nat.le_of_ble_eq_true rfl, Nat.le_of_ble_eq_true rfl⟩, w_15, w_16⟩ ⟨EB.blind, va_recv hK (ro_now hR0 hRA hS) (ci := 0) (q0 := 0) rfl rfl, EB.pre (hK.sub [] rfl) ((ro_now hR0 hRA hS).sub [0] rfl) hE hS⟩ rfl rfl hl.1 rfl (lv_room (Nat.le_of_ble_eq_true rfl)) dX2_leftOver_37 ⟨Nat.le_of_ble_eq_true rfl, Nat.le_of_ble_eq_true rfl⟩)) (fun r9 e9 => ?_)
    rw [e9]
    refine lv_if_ne (tgt := 48) hx hb dX2_leftOver_40 (by decide) (fun c_7 => ?_) (fun c_7 => ?_)
    · refine lv_aload_n hx hb dX2_leftOver_48 rfl (lv_at hl 2 rfl) ?_
      refine lv_iload_n hx hb dX2_leftOver_49 rfl (lv_at hl 1 rfl) ?_
      refine lv_aload_n hx hb dX2_leftOver_50 rfl (lv_at hl 3 rfl) ?_
      refine va_getN (v := .long fx) (C := RX1) (T := TX1) (N := 2) hx hb hts in_X1 hown hK (ro_now hR0 hRA hS) 0 rfl rfl 1 (by decide) (va_Nw.use rfl (hE.2.1 (.fieldLinkNest RX2 150 "RealSteps$Real" "fraction" "J" RX2) (by decide))) (fun _ h9 => h9) rfl dX2_leftOver_51 ?_
      refine lv_aload_n hx hb dX2_leftOver_54 rfl (lv_at hl 3 rfl) ?_
      refine vp_callSi (va_cr (va_runVN (As := []) (rest := [.long fx, .int (bI (R_neg tx)), .ref h]) ⟨hx, hb, hml, hown, hts⟩ (c_X1_unit l D ad x tx fx) ⟨va_cnB 0 hts gX2_leftOver_X1_unit_n222 rfl rfl rfl (hE.2.1 _ (List.mem_of_getElem? (i := 4) rfl)) w_4 kS_X1_unit ⟨Nat.le_of_ble_eq_true rfl, Nat.le_of_ble_eq_true rfl⟩, w_13, w_14⟩ ⟨EB.blind, va_recv hK (ro_now hR0 hRA hS) (ci := 0) (q0 := 0) rfl rfl, EB.pre (hK.sub [] rfl) ((ro_now hR0 hRA hS).sub [0] rfl) hE hS⟩ rfl rfl hl.1 rfl (lv_room (Nat.le_of_ble_eq_true rfl)) dX2_leftOver_55 ⟨Nat.le_of_ble_eq_true rfl, Nat.le_of_ble_eq_true rfl⟩)) (fun r9 e9 => ?_)
      rw [e9]
      have hFc := va_free (wc := cRS h q1 q2 cA cB tf ff cw td an 0 false) hD hS hA [0, 1, 2] rfl
      refine va_callr (va_runV (As := [.int (bI (R_neg tx)), .long fx, .int (R_unit tx)]) (rest := []) ⟨hx, hb, hml, hown, hts⟩ (c_X2_make l D ad h q1 q2 cA cB tf ff cw td an 0 false (R_neg tx) fx (R_unit tx) H.size) (cwV 3 hts gX2_leftOver_X2_make rfl rfl rfl kV_X2_make ⟨Nat.le_of_ble_eq_true rfl, Nat.le_of_ble_eq_true rfl⟩) ⟨MRB.blind, va_recv hK hP (ci := 1) (q0 := 0) rfl rfl, MRB.pre hK hP hD vP_nil ap_nil hE hS hFc⟩ rfl rfl hl.1 rfl (lv_room (Nat.le_of_ble_eq_true rfl)) dX2_leftOver_58 ⟨Nat.le_of_ble_eq_true rfl, Nat.le_of_ble_eq_true rfl⟩) hS (fun q _ h9 => hFc q h9) hFc (fun u9 y_8 t9 H locs ht hvm hw hB hz1 hk1 hS => ?_)
      obtain ⟨vt_9, vf_10, otd_11, e_12, hP, hD9, hx_y_8, nx_y_8⟩ := hB
      rw [ht] at hP hx_y_8
      have hD : va_D A (cRS h q1 q2 cA cB tf ff cw otd_11 an 0 false) := hD9.weaken (fun _ _ _ h => hFc _ h)
      have hw : R_leftOver cw td tx fx ty fy = (vt_9, vf_10, otd_11, 0, false) := by unfold R_leftOver; rw [if_pos c_1, if_neg c_7, tup3_e e_12]; try rfl
      exact W.aret hx hb hr (Or.inl ⟨_, rfl⟩) (Or.inr ⟨_, rfl⟩) (fun t9 ht hW => ⟨⟨(), y_8, rfl, trivial, ⟨vt_9, vf_10, otd_11, 0, false, hw, by rw [ht]; exact hP, hD, by rw [ht]; exact hx_y_8, nx_y_8⟩⟩, hS.F ht⟩) hS.2.2 dX2_leftOver_61
    · refine lv_iload hx hb dX2_leftOver_43 (lv_at hl 0 rfl) ?_
      refine lv_if_ge (tgt := 62) hx hb dX2_leftOver_45 (by decide) (fun c_13 => ?_) (fun c_13 => ?_)
      · refine lv_aload_n hx hb dX2_leftOver_62 rfl (lv_at hl 2 rfl) ?_
        refine lv_iload hx hb dX2_leftOver_63 (lv_at hl 0 rfl) ?_
        refine lv_bipush (v := 63) hx hb dX2_leftOver_65 (by decide) ?_
        refine q_cut (v := bI (if ((R_exp tx fx) - (R_exp ty fy)) ≤ 63 then false else true)) (pcJ := 75) (rest := [.ref h]) (fun J => ?_) ?_
        · refine lv_icmp_le (tgt := 74) hx hb dX2_leftOver_67 (by decide) (fun c_14 => ?_) (fun c_14 => ?_)
          · refine lv_iconst (v := 0) hx hb dX2_leftOver_74 (by decide) ?_
            exact J _ (by rw [if_pos c_14]; try rfl)
          · refine lv_iconst (v := 1) hx hb dX2_leftOver_70 (by decide) ?_
            refine lv_goto (tgt := 75) hx hb dX2_leftOver_71 (by decide) ?_
            exact J _ (by rw [if_neg c_14]; try rfl)
        refine va_put (v := .int (bI (if ((R_exp tx fx) - (R_exp ty fy)) ≤ 63 then false else true))) (ty := .boolean) (C := RX2) (T := TX2) (N := 7) hx hb hts in_X2 tyX2 tyX2_ok nmX2 hown hK hP hD hS 0 rfl rfl 6 (by decide) w_3 (fun _ h9 => h9) rfl (tyX2_ok 6 (by decide)) (bI_nar _) (bI_fit _) (Nat.le_of_ble_eq_true rfl) dX2_leftOver_75 (fun H locs hP hD hS => ?_)
        have hP : va_P D vwCl (cRS h q1 q2 cA cB tf ff cw td an 0 (if ((R_exp tx fx) - (R_exp ty fy)) ≤ 63 then false else true)) H := hP
        have hD : va_D A (cRS h q1 q2 cA cB tf ff cw td an 0 (if ((R_exp tx fx) - (R_exp ty fy)) ≤ 63 then false else true)) := hD
        refine lv_aload_n hx hb dX2_leftOver_78 rfl (lv_at hl 2 rfl) ?_
        refine va_get (v := .int (bI (if ((R_exp tx fx) - (R_exp ty fy)) ≤ 63 then false else true))) (C := RX2) (T := TX2) (N := 7) hx hb hts in_X2 hown hK hP 0 rfl rfl 6 (by decide) w_3 (fun _ h9 => h9) rfl dX2_leftOver_79 ?_
        refine q_cut (v := (if bI (if ((R_exp tx fx) - (R_exp ty fy)) ≤ 63 then false else true) = 0 then ((R_exp tx fx) - (R_exp ty fy)) else (63 : Int32))) (pcJ := 92) (rest := []) (fun J => ?_) ?_
        · refine lv_if_eq (tgt := 90) hx hb dX2_leftOver_82 (by decide) (fun c_15 => ?_) (fun c_15 => ?_)
          · refine lv_iload hx hb dX2_leftOver_90 (lv_at hl 0 rfl) ?_
            exact J _ (by rw [if_pos c_15]; try rfl)
          · refine lv_bipush (v := 63) hx hb dX2_leftOver_85 (by decide) ?_
            refine lv_goto (tgt := 92) hx hb dX2_leftOver_87 (by decide) ?_
            exact J _ (by rw [if_neg c_15]; try rfl)
        refine lv_istore (lv' := [(5, .int (if bI (if ((R_exp tx fx) - (R_exp ty fy)) ≤ 63 then false else true) = 0 then ((R_exp tx fx) - (R_exp ty fy)) else (63 : Int32))), (4, .int ((R_exp tx fx) - (R_exp ty fy))), (3, .int (bI (R_neg tx))), (0, .ref h), (1, .ref x), (2, .ref y)]) hx hb dX2_leftOver_92 hl (by decide) rfl (fun ls hl => ?_)
        refine lv_aload_n hx hb dX2_leftOver_94 rfl (lv_at hl 3 rfl) ?_
        refine lv_aload_n hx hb dX2_leftOver_95 rfl (lv_at hl 4 rfl) ?_
        refine vp_callSl (va_cr (va_runVN (As := []) (rest := [.ref h]) ⟨hx, hb, hml, hown, hts⟩ (c_X1_normalised l D ad x tx fx) ⟨va_cnB 0 hts gX2_leftOver_X1_normalised_n229 rfl rfl rfl (hE.2.1 _ (List.mem_of_getElem? (i := 5) rfl)) w_4 kS_X1_normalised ⟨Nat.le_of_ble_eq_true rfl, Nat.le_of_ble_eq_true rfl⟩, w_17, w_18⟩ ⟨EB.blind, va_recv hK (ro_now hR0 hRA hS) (ci := 0) (q0 := 0) rfl rfl, EB.pre (hK.sub [] rfl) ((ro_now hR0 hRA hS).sub [0] rfl) hE hS⟩ rfl rfl hl.1 rfl (lv_room (Nat.le_of_ble_eq_true rfl)) dX2_leftOver_96 ⟨Nat.le_of_ble_eq_true rfl, Nat.le_of_ble_eq_true rfl⟩)) (fun r9 e9 => ?_)
        rw [e9]
        refine lv_aload_n hx hb dX2_leftOver_99 rfl (lv_at hl 5 rfl) ?_
        refine vp_callSl (va_cr (va_runVN (As := []) (rest := [.long (R_norm fx), .ref h]) ⟨hx, hb, hml, hown, hts⟩ (c_X1_normalised l D ad y ty fy) ⟨va_cnB 0 hts gX2_leftOver_X1_normalised_n229 rfl rfl rfl (hE.2.1 _ (List.mem_of_getElem? (i := 5) rfl)) w_4 kS_X1_normalised ⟨Nat.le_of_ble_eq_true rfl, Nat.le_of_ble_eq_true rfl⟩, w_17, w_18⟩ ⟨EB.blind, va_recv hK (ro_now hR0 hRA hS) (ci := 0) (q0 := 1) rfl rfl, EB.pre (hK.sub [] rfl) ((ro_now hR0 hRA hS).sub [1] rfl) hE hS⟩ rfl rfl hl.1 rfl (lv_room (Nat.le_of_ble_eq_true rfl)) dX2_leftOver_100 ⟨Nat.le_of_ble_eq_true rfl, Nat.le_of_ble_eq_true rfl⟩)) (fun r9 e9 => ?_)
        rw [e9]
        refine lv_iload hx hb dX2_leftOver_103 (lv_at hl 0 rfl) ?_
        have hFc := va_free (wc := cRS h q1 q2 cA cB tf ff cw td an 0 (if ((R_exp tx fx) - (R_exp ty fy)) ≤ 63 then false else true)) hD hS hA [0, 1, 2] rfl
        refine va_calll (va_runV (As := [.long (R_norm fx), .long (R_norm fy), .int (if bI (if ((R_exp tx fx) - (R_exp ty fy)) ≤ 63 then false else true) = 0 then ((R_exp tx fx) - (R_exp ty fy)) else (63 : Int32))]) (rest := []) ⟨hx, hb, hml, hown, hts⟩ (c_X2_divide l D ad h q1 q2 cA cB tf ff cw td an 0 (if ((R_exp tx fx) - (R_exp ty fy)) ≤ 63 then false else true) (R_norm fx) (R_norm fy) (if bI (if ((R_exp tx fx) - (R_exp ty fy)) ≤ 63 then false else true) = 0 then ((R_exp tx fx) - (R_exp ty fy)) else (63 : Int32)) H.size) (cwV 3 hts gX2_leftOver_X2_divide rfl rfl rfl kV_X2_divide ⟨Nat.le_of_ble_eq_true rfl, Nat.le_of_ble_eq_true rfl⟩) ⟨MRB.blind, va_recv hK hP (ci := 1) (q0 := 0) rfl rfl, MRB.pre hK hP hD vP_nil ap_nil hE hS hFc⟩ rfl rfl hl.1 rfl (lv_room (Nat.le_of_ble_eq_true rfl)) dX2_leftOver_105 ⟨Nat.le_of_ble_eq_true rfl, Nat.le_of_ble_eq_true rfl⟩) hS (fun q _ h9 => hFc q h9) hFc (fun v_16 u9 t9 H locs ht hvm hw hB hz1 hk1 hS => ?_)
        obtain rfl := hw
        obtain ⟨oqb_17, e_18, hP, hD9⟩ := hB
        rw [ht] at hP
        have hD : va_D A (cRS h q1 q2 cA cB tf ff cw td an oqb_17 (if ((R_exp tx fx) - (R_exp ty fy)) ≤ 63 then false else true)) := hD9.weaken (fun _ _ _ h => hFc _ h)
        refine lv_lstore (lv' := [(6, .long v_16), (5, .int (if bI (if ((R_exp tx fx) - (R_exp ty fy)) ≤ 63 then false else true) = 0 then ((R_exp tx fx) - (R_exp ty fy)) else (63 : Int32))), (4, .int ((R_exp tx fx) - (R_exp ty fy))), (3, .int (bI (R_neg tx))), (0, .ref h), (1, .ref x), (2, .ref y)]) hx hb dX2_leftOver_108 hl (by decide) rfl (fun ls hl => ?_)
        refine lv_aload_n hx hb dX2_leftOver_110 rfl (lv_at hl 4 rfl) ?_
        refine lv_iload_n hx hb dX2_leftOver_111 rfl (lv_at hl 3 rfl) ?_
        refine lv_lload hx hb dX2_leftOver_112 (lv_at hl 0 rfl) ?_
        refine lv_aload_n hx hb dX2_leftOver_114 rfl (lv_at hl 5 rfl) ?_
        refine vp_callSi (va_cr (va_runVN (As := []) (rest := [.long v_16, .int (bI (R_neg tx)), .ref h]) ⟨hx, hb, hml, hown, hts⟩ (c_X1_exponent l D ad x tx fx) ⟨va_cnB 0 hts gX2_leftOver_X1_exponent_n219 rfl rfl rfl (hE.2.1 _ (List.mem_of_getElem? (i := 3) rfl)) w_4 kS_X1_exponent ⟨Nat.le_of_ble_eq_true rfl, Nat.le_of_ble_eq_true rfl⟩, w_7, w_8⟩ ⟨EB.blind, va_recv hK (ro_now hR0 hRA hS) (ci := 0) (q0 := 0) rfl rfl, EB.pre (hK.sub [] rfl) ((ro_now hR0 hRA hS).sub [0] rfl) hE hS⟩ rfl rfl hl.1 rfl (lv_room (Nat.le_of_ble_eq_true rfl)) dX2_leftOver_115 ⟨Nat.le_of_ble_eq_true rfl, Nat.le_of_ble_eq_true rfl⟩)) (fun r9 e9 => ?_)
        rw [e9]
        refine lv_bipush (v := 63) hx hb dX2_leftOver_118 (by decide) ?_
        refine lv_isub hx hb dX2_leftOver_120 ?_
        refine lv_iload hx hb dX2_leftOver_121 (lv_at hl 1 rfl) ?_
        refine lv_isub hx hb dX2_leftOver_123 ?_
        have hFc := va_free (wc := cRS h q1 q2 cA cB tf ff cw td an oqb_17 (if ((R_exp tx fx) - (R_exp ty fy)) ≤ 63 then false else true)) hD hS hA [0, 1, 2] rfl
        refine va_callr (va_runV (As := [.int (bI (R_neg tx)), .long v_16, .int (((R_exp tx fx) - 63) - (if bI (if ((R_exp tx fx) - (R_exp ty fy)) ≤ 63 then false else true) = 0 then ((R_exp tx fx) - (R_exp ty fy)) else (63 : Int32)))]) (rest := []) ⟨hx, hb, hml, hown, hts⟩ (c_X2_make l D ad h q1 q2 cA cB tf ff cw td an oqb_17 (if ((R_exp tx fx) - (R_exp ty fy)) ≤ 63 then false else true) (R_neg tx) v_16 (((R_exp tx fx) - 63) - (if bI (if ((R_exp tx fx) - (R_exp ty fy)) ≤ 63 then false else true) = 0 then ((R_exp tx fx) - (R_exp ty fy)) else (63 : Int32))) H.size) (cwV 3 hts gX2_leftOver_X2_make rfl rfl rfl kV_X2_make ⟨Nat.le_of_ble_eq_true rfl, Nat.le_of_ble_eq_true rfl⟩) ⟨MRB.blind, va_recv hK hP (ci := 1) (q0 := 0) rfl rfl, MRB.pre hK hP hD vP_nil ap_nil hE hS hFc⟩ rfl rfl hl.1 rfl (lv_room (Nat.le_of_ble_eq_true rfl)) dX2_leftOver_124 ⟨Nat.le_of_ble_eq_true rfl, Nat.le_of_ble_eq_true rfl⟩) hS (fun q _ h9 => hFc q h9) hFc (fun u9 y_19 t9 H locs ht hvm hw hB hz1 hk1 hS => ?_)
        obtain ⟨vt_20, vf_21, otd_22, e_23, hP, hD9, hx_y_19, nx_y_19⟩ := hB
        rw [ht] at hP hx_y_19
        have hD : va_D A (cRS h q1 q2 cA cB tf ff cw otd_22 an oqb_17 (if ((R_exp tx fx) - (R_exp ty fy)) ≤ 63 then false else true)) := hD9.weaken (fun _ _ _ h => hFc _ h)
        have hw : R_leftOver cw td tx fx ty fy = (vt_20, vf_21, otd_22, oqb_17, (if ((R_exp tx fx) - (R_exp ty fy)) ≤ 63 then false else true)) := by unfold R_leftOver; rw [if_pos c_1, if_pos c_7, if_pos c_13, tup2_e e_18, tup3_e e_23]; try rfl
        exact W.aret hx hb hr (Or.inl ⟨_, rfl⟩) (Or.inr ⟨_, rfl⟩) (fun t9 ht hW => ⟨⟨(), y_19, rfl, trivial, ⟨vt_20, vf_21, otd_22, oqb_17, (if ((R_exp tx fx) - (R_exp ty fy)) ≤ 63 then false else true), hw, by rw [ht]; exact hP, hD, by rw [ht]; exact hx_y_19, nx_y_19⟩⟩, hS.F ht⟩) hS.2.2 dX2_leftOver_127
      · refine lv_aload_n hx hb dX2_leftOver_48 rfl (lv_at hl 2 rfl) ?_
        refine lv_iload_n hx hb dX2_leftOver_49 rfl (lv_at hl 1 rfl) ?_
        refine lv_aload_n hx hb dX2_leftOver_50 rfl (lv_at hl 3 rfl) ?_
        refine va_getN (v := .long fx) (C := RX1) (T := TX1) (N := 2) hx hb hts in_X1 hown hK (ro_now hR0 hRA hS) 0 rfl rfl 1 (by decide) (va_Nw.use rfl (hE.2.1 (.fieldLinkNest RX2 150 "RealSteps$Real" "fraction" "J" RX2) (by decide))) (fun _ h9 => h9) rfl dX2_leftOver_51 ?_
        refine lv_aload_n hx hb dX2_leftOver_54 rfl (lv_at hl 3 rfl) ?_
        refine vp_callSi (va_cr (va_runVN (As := []) (rest := [.long fx, .int (bI (R_neg tx)), .ref h]) ⟨hx, hb, hml, hown, hts⟩ (c_X1_unit l D ad x tx fx) ⟨va_cnB 0 hts gX2_leftOver_X1_unit_n222 rfl rfl rfl (hE.2.1 _ (List.mem_of_getElem? (i := 4) rfl)) w_4 kS_X1_unit ⟨Nat.le_of_ble_eq_true rfl, Nat.le_of_ble_eq_true rfl⟩, w_13, w_14⟩ ⟨EB.blind, va_recv hK (ro_now hR0 hRA hS) (ci := 0) (q0 := 0) rfl rfl, EB.pre (hK.sub [] rfl) ((ro_now hR0 hRA hS).sub [0] rfl) hE hS⟩ rfl rfl hl.1 rfl (lv_room (Nat.le_of_ble_eq_true rfl)) dX2_leftOver_55 ⟨Nat.le_of_ble_eq_true rfl, Nat.le_of_ble_eq_true rfl⟩)) (fun r9 e9 => ?_)
        rw [e9]
        have hFc := va_free (wc := cRS h q1 q2 cA cB tf ff cw td an 0 false) hD hS hA [0, 1, 2] rfl
        refine va_callr (va_runV (As := [.int (bI (R_neg tx)), .long fx, .int (R_unit tx)]) (rest := []) ⟨hx, hb, hml, hown, hts⟩ (c_X2_make l D ad h q1 q2 cA cB tf ff cw td an 0 false (R_neg tx) fx (R_unit tx) H.size) (cwV 3 hts gX2_leftOver_X2_make rfl rfl rfl kV_X2_make ⟨Nat.le_of_ble_eq_true rfl, Nat.le_of_ble_eq_true rfl⟩) ⟨MRB.blind, va_recv hK hP (ci := 1) (q0 := 0) rfl rfl, MRB.pre hK hP hD vP_nil ap_nil hE hS hFc⟩ rfl rfl hl.1 rfl (lv_room (Nat.le_of_ble_eq_true rfl)) dX2_leftOver_58 ⟨Nat.le_of_ble_eq_true rfl, Nat.le_of_ble_eq_true rfl⟩) hS (fun q _ h9 => hFc q h9) hFc (fun u9 y_24 t9 H locs ht hvm hw hB hz1 hk1 hS => ?_)
        obtain ⟨vt_25, vf_26, otd_27, e_28, hP, hD9, hx_y_24, nx_y_24⟩ := hB
        rw [ht] at hP hx_y_24
        have hD : va_D A (cRS h q1 q2 cA cB tf ff cw otd_27 an 0 false) := hD9.weaken (fun _ _ _ h => hFc _ h)
        have hw : R_leftOver cw td tx fx ty fy = (vt_25, vf_26, otd_27, 0, false) := by unfold R_leftOver; rw [if_pos c_1, if_pos c_7, if_neg c_13, tup3_e e_28]; try rfl
        exact W.aret hx hb hr (Or.inl ⟨_, rfl⟩) (Or.inr ⟨_, rfl⟩) (fun t9 ht hW => ⟨⟨(), y_24, rfl, trivial, ⟨vt_25, vf_26, otd_27, 0, false, hw, by rw [ht]; exact hP, hD, by rw [ht]; exact hx_y_24, nx_y_24⟩⟩, hS.F ht⟩) hS.2.2 dX2_leftOver_61
