def M_shL  : Nat → Int64 → Int32 → Int64 × Int32
  | 0, w1, w2 => (w1, w2)
  | n + 1, w1, w2 => if 0 ≤ w2 then ((w1, w2))
    else M_shL n (2 * w1) (w2 + 1)
theorem M_shL_S  (n : Nat) (w1 : Int64) (w2 : Int32) : M_shL (n + 1) w1 w2 = (if 0 ≤ w2 then ((w1, w2))
    else M_shL n (2 * w1) (w2 + 1)) := rfl
def M_mkL  : Nat → Int64 → Int32 → Int64 × Int32
  | 0, v1, v2 => (v1, v2)
  | n + 1, v1, v2 => if 0 < v1 then (M_mkL n (2 * v1) (v2 + (-1)))
    else (v1, v2)
theorem M_mkL_S  (n : Nat) (v1 : Int64) (v2 : Int32) : M_mkL (n + 1) v1 v2 = (if 0 < v1 then (M_mkL n (2 * v1) (v2 + (-1)))
    else (v1, v2)) := rfl
def M_make (ct : Int32) (td : Int32) (lo : Bool) (ng : Bool) (fr : Int64) (un : Int32) : Int32 × Bool × Int32 × Int64 × Bool :=
  if fr = 0 then (tup3 ((M_answer (if bI ng = 0 then (0 : Int32) else (32768 : Int32)) 0)) (fun oan_76 oaT_77 oaF_78 =>
      (td, oan_76, oaT_77, oaF_78, lo)))
  else (tup2 (M_mkL (64) fr (un + 63)) (fun v1 v2 =>
      if (-16382) ≤ v2 then (if 16384 ≤ v2 then (if bI (M_masked ct 8) = 0 then (tup2 ((M_tell ct td 8)) (fun v_24 otd_25 =>
              tup3 ((M_answer ((((if bI ng = 0 then (0 : Int32) else (32768 : Int32)) + v2) + 16383) - 24576) v1)) (fun oan_27 oaT_28 oaF_29 =>
                (otd_25, oan_27, oaT_28, oaF_29, lo))))
          else (tup2 ((M_tell ct td 8)) (fun v_8 otd_9 =>
              tup2 ((M_tell ct otd_9 32)) (fun v_11 otd_12 =>
                tup3 ((M_answer ((if bI ng = 0 then (0 : Int32) else (32768 : Int32)) + (if bI (if (M_way ct) = 0 then true else (if bI ng = 0 then (if (M_way ct) = 2 then true else false) else (if (M_way ct) = 1 then true else false))) = 0 then (32766 : Int32) else (32767 : Int32))) (if bI (if (M_way ct) = 0 then true else (if bI ng = 0 then (if (M_way ct) = 2 then true else false) else (if (M_way ct) = 1 then true else false))) = 0 then (-1 : Int64) else (-9223372036854775808 : Int64)))) (fun oan_20 oaT_21 oaF_22 =>
                  (otd_12, oan_20, oaT_21, oaF_22, lo))))))
        else (tup3 ((M_answer (((if bI ng = 0 then (0 : Int32) else (32768 : Int32)) + v2) + 16383) v1)) (fun oan_31 oaT_32 oaF_33 =>
            (td, oan_31, oaT_32, oaF_33, lo))))
      else if bI (M_masked ct 16) = 0 then (tup2 ((M_tell ct td 16)) (fun v_37 otd_38 =>
          tup3 ((M_answer ((((if bI ng = 0 then (0 : Int32) else (32768 : Int32)) + v2) + 16383) + 24576) v1)) (fun oan_40 oaT_41 oaF_42 =>
            (otd_38, oan_40, oaT_41, oaF_42, lo))))
      else if ((-16445) - un) ≤ 0 then (tup2 (M_shL ((-((-16445) - un).toInt).toNat + 1) fr ((-16445) - un)) (fun w1 w2 =>
          tup3 ((M_answer ((if bI ng = 0 then (0 : Int32) else (32768 : Int32)) + (bI (if w1 < 0 then true else false))) w1)) (fun oan_48 oaT_49 oaF_50 =>
            (td, oan_48, oaT_49, oaF_50, false))))
      else (tup2 ((M_rounded ct fr ((-16445) - un) ng)) (fun v_53 olo_54 =>
          tup2 (M_shL ((-((-16445) - un).toInt).toNat + 1) v_53 ((-16445) - un)) (fun w1 w2 =>
            if bI olo_54 = 0 then (tup3 ((M_answer ((if bI ng = 0 then (0 : Int32) else (32768 : Int32)) + (bI (if w1 < 0 then true else false))) w1)) (fun oan_59 oaT_60 oaF_61 =>
                (td, oan_59, oaT_60, oaF_61, olo_54)))
            else (tup2 ((M_tell ct td 16)) (fun v_63 otd_64 =>
                tup2 ((M_tell ct otd_64 32)) (fun v_66 otd_67 =>
                  tup3 ((M_answer ((if bI ng = 0 then (0 : Int32) else (32768 : Int32)) + (bI (if w1 < 0 then true else false))) w1)) (fun oan_70 oaT_71 oaF_72 =>
                    (otd_67, oan_70, oaT_71, oaF_72, olo_54))))))))))
theorem kS_X3_make : yX3_make.cls ≠ "java/lang/invoke/MethodHandle" ∧ yX3_make.cls ≠ "java/lang/invoke/VarHandle" ∧ (parseMethodDescriptor yX3_make.desc).map (fun d => d.parameters.length) = some 3 := by decide +kernel
theorem kV_X3_make : yX3_make.cls = RX3 ∧ yX3_make.cls ≠ "java/lang/invoke/MethodHandle" ∧ yX3_make.cls ≠ "java/lang/invoke/VarHandle" ∧ (parseMethodDescriptor yX3_make.desc).map (fun d => d.parameters.length) = some 3 := ⟨rfl, kS_X3_make⟩
set_option maxHeartbeats 4000000 in
set_option maxRecDepth 100000 in
theorem c_X3_make (l : Launch) (D : va_G) (h : Nat) (q1 : Nat) (q2 : Nat) (cA : ClassId) (cB : ClassId) (cd : Int32) (ct : Int32) (tf : Nat → Int32) (ff : Nat → Int64) (td : Int32) (an : Bool) (qb : Int32) (pa : Bool) (aT : Int32) (aF : Int64) (dg : Int64) (fi : Int32) (lo : Bool) (ng : Bool) (fr : Int64) (un : Int32) (sz : Nat) : Met l yX3_make wsX3_make ({ frames := 2, cells := 0, slots := 0, locals := 49 } : Room) (va_Pc [.ref h, .int (bI ng), .long fr, .int un] (MMB D (tRS cA cB) (cMd h q1 q2 cA cB cd ct tf ff td an qb pa aT aF dg fi lo) sz)) (va_Qv (fun (_ : Unit) => True) (fun _ t => ∃ (w_td : Int32) (w_an : Bool) (w_aT : Int32) (w_aF : Int64) (w_lo : Bool), M_make ct td lo ng fr un = (w_td, w_an, w_aT, w_aF, w_lo) ∧ va_P D vwCl (cMd h q1 q2 cA cB cd ct tf ff w_td w_an qb pa w_aT w_aF dg fi w_lo) t.heap ∧ va_D (va_A (cMd h q1 q2 cA cB cd ct tf ff td an qb pa aT aF dg fi lo) sz) (cMd h q1 q2 cA cB cd ct tf ff w_td w_an qb pa w_aT w_aF dg fi w_lo)) (va_A (cMd h q1 q2 cA cB cd ct tf ff td an qb pa aT aF dg fi lo) sz)) 0 0 (va_A (cMd h q1 q2 cA cB cd ct tf ff td an qb pa aT aF dg fi lo) sz) := by
  refine Met.ofW (cc := cX3_make) (maxL := 13) (ret := none) (by decide) rfl ?_
  intro p e s m args below meth c s₁ B hml hv
  obtain ⟨rfl, hsz, hP, hK, hD0⟩ := hv
  have hx := B.exec
  have hb := B.bytes
  have hr := B.returns
  have hts := atoms_spec (ws := wsX3_make) B.pre
  have hown : s.vm.findClass RX3 = some m.cls := findClass_of_methodNamed B.named
  have hlocks := B.notSynchronized
  have w_1 := hts (.constant RX3 33 (32768)) (by decide +kernel)
  have w_2 := hts (.constantLong RX3 109 (-1)) (by decide +kernel)
  have w_3 := hts (.constantLong RX3 34 (-9223372036854775808)) (by decide +kernel)
  have w_4 := hts (.fieldLink RX3 98 "RealStepsModel" "lost" "Z") (by decide +kernel)
  have in_X3 : ∀ w ∈ wsX30, w ∈ wsX3_make := by decide +kernel
  have w_6 := hts (.constantLong RX3 60 (2)) (by decide +kernel)
  subst hsz
  have hD := hD0.self (sz := s.heap.size)
  generalize hAe : va_A (cMd h q1 q2 cA cB cd ct tf ff td an qb pa aT aF dg fi lo) s.heap.size = A at hD ⊢
  have hA : ∀ q : Nat, s.heap.size ≤ q → A q := fun q h => by rw [← hAe]; exact Or.inr h
  have hS : va_S A s.heap s.heap [] := va_S.rf
  have hP : va_P D vwCl (cMd h q1 q2 cA cB cd ct tf ff td an qb pa aT aF dg fi lo) s.heap := hP
  have hl := lv_entry ([.ref h, .int (bI ng), .long fr, .int un]) (n := 13) (Nat.le_of_ble_eq_true rfl)
  rw [lg_entry_eq]
  generalize (lg_sl ([.ref h, .int (bI ng), .long fr, .int un]) ++ List.replicate (13 - (lg_sl ([.ref h, .int (bI ng), .long fr, .int un])).length) Slot.unset).toArray = ls at hl ⊢
  have hl : lv_has ls 13 [(0, .ref h), (1, .int (bI ng)), (2, .long fr), (4, .int un)] := hl
  refine lv_iload_n hx hb dX3_make_0 rfl (lv_at hl 1 rfl) ?_
  refine q_cut (v := (if bI ng = 0 then (0 : Int32) else (32768 : Int32))) (pcJ := 10) (rest := []) (fun J => ?_) ?_
  · refine lv_if_eq (tgt := 9) hx hb dX3_make_1 (by decide) (fun c_1 => ?_) (fun c_1 => ?_)
    · refine lv_iconst (v := 0) hx hb dX3_make_9 (by decide) ?_
      exact J _ (by rw [if_pos c_1]; try rfl)
    · refine lv_ldc (v := 32768) hx hb hown w_1 dX3_make_4 ?_
      refine lv_goto (tgt := 10) hx hb dX3_make_6 (by decide) ?_
      exact J _ (by rw [if_neg c_1]; try rfl)
  refine lv_istore (lv' := [(5, .int (if bI ng = 0 then (0 : Int32) else (32768 : Int32))), (0, .ref h), (1, .int (bI ng)), (2, .long fr), (4, .int un)]) hx hb dX3_make_10 hl (by decide) rfl (fun ls hl => ?_)
  refine lv_lload_n hx hb dX3_make_12 rfl (lv_at hl 3 rfl) ?_
  refine lv_lconst (v := 0) hx hb dX3_make_13 (by decide) ?_
  refine q_cl_ne (tgt := 26) hx hb dX3_make_14 dX3_make_15 (by decide) (fun c_2 => ?_) (fun c_2 => ?_)
  · refine lv_lload_n hx hb dX3_make_26 rfl (lv_at hl 3 rfl) ?_
    refine lv_lstore (lv' := [(6, .long fr), (5, .int (if bI ng = 0 then (0 : Int32) else (32768 : Int32))), (0, .ref h), (1, .int (bI ng)), (2, .long fr), (4, .int un)]) hx hb dX3_make_27 hl (by decide) rfl (fun ls hl => ?_)
    refine lv_iload hx hb dX3_make_29 (lv_at hl 5 rfl) ?_
    refine lv_bipush (v := 63) hx hb dX3_make_31 (by decide) ?_
    refine lv_iadd hx hb dX3_make_33 ?_
    refine lv_istore (lv' := [(8, .int (un + 63)), (6, .long fr), (5, .int (if bI ng = 0 then (0 : Int32) else (32768 : Int32))), (0, .ref h), (1, .int (bI ng)), (2, .long fr), (4, .int un)]) hx hb dX3_make_34 hl (by decide) rfl (fun ls hl => ?_)
    have EXIT : ∀ (v1 : Int64) (v2 : Int32), M_mkL (64) fr (un + 63) = (v1, v2) → ∀ (H : Heap) (locs : List Loc) (ls : Array Slot), va_P D vwCl (cMd h q1 q2 cA cB cd ct tf ff td an qb pa aT aF dg fi lo) H → va_D A (cMd h q1 q2 cA cB cd ct tf ff td an qb pa aT aF dg fi lo) → va_S A s.heap H locs → lv_has ls 13 [(8, .int v2), (6, .long v1), (5, .int (if bI ng = 0 then (0 : Int32) else (32768 : Int32))), (0, .ref h), (1, .int (bI ng)), (2, .long fr), (4, .int un)] → W p l e (headSpec wsX3_make ({ frames := 2, cells := 0, slots := 0, locals := 49 } : Room)).room s m ([.ref h, .int (bI ng), .long fr, .int un]).toArray below meth c H locs 0 0 (MQ below (va_Qv (fun (_ : Unit) => True) (fun _ t => ∃ (w_td : Int32) (w_an : Bool) (w_aT : Int32) (w_aF : Int64) (w_lo : Bool), M_make ct td lo ng fr un = (w_td, w_an, w_aT, w_aF, w_lo) ∧ va_P D vwCl (cMd h q1 q2 cA cB cd ct tf ff w_td w_an qb pa w_aT w_aF dg fi w_lo) t.heap ∧ va_D A (cMd h q1 q2 cA cB cd ct tf ff w_td w_an qb pa w_aT w_aF dg fi w_lo)) A) ([.ref h, .int (bI ng), .long fr, .int un]).toArray s 0 0 A) (F0 m 57 ls []) := by
      intro v1 v2 e_3 H locs ls hP hD hS hl
      refine lv_iload hx hb dX3_make_57 (lv_at hl 0 rfl) ?_
      refine lv_sipush (v := (-16382)) hx hb dX3_make_59 (by decide) ?_
      refine lv_icmp_ge (tgt := 173) hx hb dX3_make_62 (by decide) (fun c_4 => ?_) (fun c_4 => ?_)
      · refine lv_iload hx hb dX3_make_173 (lv_at hl 0 rfl) ?_
        refine lv_sipush (v := (-16382)) hx hb dX3_make_175 (by decide) ?_
        refine lv_icmp_ge (tgt := 210) hx hb dX3_make_178 (by decide) (fun c_5 => ?_) (fun c_5 => ?_)
        · refine lv_iload hx hb dX3_make_210 (lv_at hl 0 rfl) ?_
          refine lv_sipush (v := 16384) hx hb dX3_make_212 (by decide) ?_
          refine lv_icmp_ge (tgt := 236) hx hb dX3_make_215 (by decide) (fun c_6 => ?_) (fun c_6 => ?_)
          · refine lv_aload_n hx hb dX3_make_236 rfl (lv_at hl 3 rfl) ?_
            refine lv_bipush (v := 8) hx hb dX3_make_237 (by decide) ?_
            refine vp_callSi (va_cr (va_runV (As := [.int 8]) (rest := []) ⟨hx, hb, hml, hown, hts⟩ (c_X3_masked l D h q1 q2 cA cB cd ct tf ff td an qb pa aT aF dg fi lo 8 (by decide)) (cwV 1 hts gX3_make_X3_masked rfl rfl rfl kV_X3_masked ⟨Nat.le_of_ble_eq_true rfl, Nat.le_of_ble_eq_true rfl⟩) ⟨PB.blind, va_recv hK hP (ci := 2) (q0 := 0) rfl rfl, PB.pre hK hP⟩ rfl rfl hl.1 rfl (lv_room (Nat.le_of_ble_eq_true rfl)) dX3_make_239 ⟨Nat.le_of_ble_eq_true rfl, Nat.le_of_ble_eq_true rfl⟩)) (fun r9 e9 => ?_)
            rw [e9]
            refine lv_if_ne (tgt := 274) hx hb dX3_make_242 (by decide) (fun c_7 => ?_) (fun c_7 => ?_)
            · refine lv_aload_n hx hb dX3_make_274 rfl (lv_at hl 3 rfl) ?_
              refine lv_bipush (v := 8) hx hb dX3_make_275 (by decide) ?_
              have hFc := va_free (wc := cMd h q1 q2 cA cB cd ct tf ff td an qb pa aT aF dg fi lo) hD hS hA [0, 1, 2] rfl
              refine va_calli (va_runV (As := [.int 8]) (rest := []) ⟨hx, hb, hml, hown, hts⟩ (c_X3_tell l D h q1 q2 cA cB cd ct tf ff td an qb pa aT aF dg fi lo 8 H.size (by decide)) (cwV 1 hts gX3_make_X3_tell rfl rfl rfl kV_X3_tell ⟨Nat.le_of_ble_eq_true rfl, Nat.le_of_ble_eq_true rfl⟩) ⟨MMB.blind, va_recv hK hP (ci := 2) (q0 := 0) rfl rfl, MMB.pre hK hP hD⟩ rfl rfl hl.1 rfl (lv_room (Nat.le_of_ble_eq_true rfl)) dX3_make_277 ⟨Nat.le_of_ble_eq_true rfl, Nat.le_of_ble_eq_true rfl⟩) hS (fun q _ h9 => hFc q h9) hFc (fun r9 v_8 t9 H locs ht hvm hw hB hz1 hk1 hS => ?_)
              obtain rfl := hw
              obtain ⟨otd_9, e_10, hP, hD9⟩ := hB
              rw [ht] at hP
              have hD : va_D A (cMd h q1 q2 cA cB cd ct tf ff otd_9 an qb pa aT aF dg fi lo) := hD9.weaken (fun _ _ _ h => hFc _ h)
              refine lv_pop hx hb dX3_make_280 rfl ?_
              refine lv_aload_n hx hb dX3_make_281 rfl (lv_at hl 3 rfl) ?_
              refine lv_bipush (v := 32) hx hb dX3_make_282 (by decide) ?_
              have hFc := va_free (wc := cMd h q1 q2 cA cB cd ct tf ff otd_9 an qb pa aT aF dg fi lo) hD hS hA [0, 1, 2] rfl
              refine va_calli (va_runV (As := [.int 32]) (rest := []) ⟨hx, hb, hml, hown, hts⟩ (c_X3_tell l D h q1 q2 cA cB cd ct tf ff otd_9 an qb pa aT aF dg fi lo 32 H.size (by decide)) (cwV 1 hts gX3_make_X3_tell rfl rfl rfl kV_X3_tell ⟨Nat.le_of_ble_eq_true rfl, Nat.le_of_ble_eq_true rfl⟩) ⟨MMB.blind, va_recv hK hP (ci := 2) (q0 := 0) rfl rfl, MMB.pre hK hP hD⟩ rfl rfl hl.1 rfl (lv_room (Nat.le_of_ble_eq_true rfl)) dX3_make_284 ⟨Nat.le_of_ble_eq_true rfl, Nat.le_of_ble_eq_true rfl⟩) hS (fun q _ h9 => hFc q h9) hFc (fun r9 v_11 t9 H locs ht hvm hw hB hz1 hk1 hS => ?_)
              obtain rfl := hw
              obtain ⟨otd_12, e_13, hP, hD9⟩ := hB
              rw [ht] at hP
              have hD : va_D A (cMd h q1 q2 cA cB cd ct tf ff otd_12 an qb pa aT aF dg fi lo) := hD9.weaken (fun _ _ _ h => hFc _ h)
              refine lv_pop hx hb dX3_make_287 rfl ?_
              refine lv_aload_n hx hb dX3_make_288 rfl (lv_at hl 3 rfl) ?_
              refine vp_callSi (va_cr (va_runV (As := []) (rest := []) ⟨hx, hb, hml, hown, hts⟩ (c_X3_way l D h q1 q2 cA cB cd ct tf ff otd_12 an qb pa aT aF dg fi lo) (cwV 0 hts gX3_make_X3_way rfl rfl rfl kV_X3_way ⟨Nat.le_of_ble_eq_true rfl, Nat.le_of_ble_eq_true rfl⟩) ⟨PB.blind, va_recv hK hP (ci := 2) (q0 := 0) rfl rfl, PB.pre hK hP⟩ rfl rfl hl.1 rfl (lv_room (Nat.le_of_ble_eq_true rfl)) dX3_make_289 ⟨Nat.le_of_ble_eq_true rfl, Nat.le_of_ble_eq_true rfl⟩)) (fun r9 e9 => ?_)
              rw [e9]
              refine q_cut (v := bI (if (M_way ct) = 0 then true else (if bI ng = 0 then (if (M_way ct) = 2 then true else false) else (if (M_way ct) = 1 then true else false)))) (pcJ := 316) (rest := []) (fun J => ?_) ?_
              · refine lv_if_eq (tgt := 311) hx hb dX3_make_292 (by decide) (fun c_14 => ?_) (fun c_14 => ?_)
                · refine lv_iconst (v := 1) hx hb dX3_make_311 (by decide) ?_
                  refine lv_goto (tgt := 316) hx hb dX3_make_312 (by decide) ?_
                  exact J _ (by rw [if_pos c_14]; try rfl)
                · refine lv_aload_n hx hb dX3_make_295 rfl (lv_at hl 3 rfl) ?_
                  refine vp_callSi (va_cr (va_runV (As := []) (rest := []) ⟨hx, hb, hml, hown, hts⟩ (c_X3_way l D h q1 q2 cA cB cd ct tf ff otd_12 an qb pa aT aF dg fi lo) (cwV 0 hts gX3_make_X3_way rfl rfl rfl kV_X3_way ⟨Nat.le_of_ble_eq_true rfl, Nat.le_of_ble_eq_true rfl⟩) ⟨PB.blind, va_recv hK hP (ci := 2) (q0 := 0) rfl rfl, PB.pre hK hP⟩ rfl rfl hl.1 rfl (lv_room (Nat.le_of_ble_eq_true rfl)) dX3_make_296 ⟨Nat.le_of_ble_eq_true rfl, Nat.le_of_ble_eq_true rfl⟩)) (fun r9 e9 => ?_)
                  rw [e9]
                  refine lv_iload_n hx hb dX3_make_299 rfl (lv_at hl 4 rfl) ?_
                  refine lv_if_eq (tgt := 307) hx hb dX3_make_300 (by decide) (fun c_15 => ?_) (fun c_15 => ?_)
                  · refine lv_iconst (v := 2) hx hb dX3_make_307 (by decide) ?_
                    refine lv_icmp_ne (tgt := 315) hx hb dX3_make_308 (by decide) (fun c_16 => ?_) (fun c_16 => ?_)
                    · refine lv_iconst (v := 0) hx hb dX3_make_315 (by decide) ?_
                      exact J _ (by rw [if_neg c_14, if_pos c_15, if_neg c_16]; try rfl)
                    · refine lv_iconst (v := 1) hx hb dX3_make_311 (by decide) ?_
                      refine lv_goto (tgt := 316) hx hb dX3_make_312 (by decide) ?_
                      exact J _ (by rw [if_neg c_14, if_pos c_15, if_pos c_16]; try rfl)
                  · refine lv_iconst (v := 1) hx hb dX3_make_303 (by decide) ?_
                    refine lv_goto (tgt := 308) hx hb dX3_make_304 (by decide) ?_
                    refine lv_icmp_ne (tgt := 315) hx hb dX3_make_308 (by decide) (fun c_17 => ?_) (fun c_17 => ?_)
                    · refine lv_iconst (v := 0) hx hb dX3_make_315 (by decide) ?_
                      exact J _ (by rw [if_neg c_14, if_neg c_15, if_neg c_17]; try rfl)
                    · refine lv_iconst (v := 1) hx hb dX3_make_311 (by decide) ?_
                      refine lv_goto (tgt := 316) hx hb dX3_make_312 (by decide) ?_
                      exact J _ (by rw [if_neg c_14, if_neg c_15, if_pos c_17]; try rfl)
              refine lv_istore (lv' := [(9, .int (bI (if (M_way ct) = 0 then true else (if bI ng = 0 then (if (M_way ct) = 2 then true else false) else (if (M_way ct) = 1 then true else false))))), (8, .int v2), (6, .long v1), (5, .int (if bI ng = 0 then (0 : Int32) else (32768 : Int32))), (0, .ref h), (1, .int (bI ng)), (2, .long fr), (4, .int un)]) hx hb dX3_make_316 hl (by decide) rfl (fun ls hl => ?_)
              refine lv_aload_n hx hb dX3_make_318 rfl (lv_at hl 4 rfl) ?_
              refine lv_iload hx hb dX3_make_319 (lv_at hl 3 rfl) ?_
              refine lv_iload hx hb dX3_make_321 (lv_at hl 0 rfl) ?_
              refine q_cut (v := (if bI (if (M_way ct) = 0 then true else (if bI ng = 0 then (if (M_way ct) = 2 then true else false) else (if (M_way ct) = 1 then true else false))) = 0 then (32766 : Int32) else (32767 : Int32))) (pcJ := 335) (rest := [.int (if bI ng = 0 then (0 : Int32) else (32768 : Int32)), .ref h]) (fun J => ?_) ?_
              · refine lv_if_eq (tgt := 332) hx hb dX3_make_323 (by decide) (fun c_18 => ?_) (fun c_18 => ?_)
                · refine lv_sipush (v := 32766) hx hb dX3_make_332 (by decide) ?_
                  exact J _ (by rw [if_pos c_18]; try rfl)
                · refine lv_sipush (v := 32767) hx hb dX3_make_326 (by decide) ?_
                  refine lv_goto (tgt := 335) hx hb dX3_make_329 (by decide) ?_
                  exact J _ (by rw [if_neg c_18]; try rfl)
              refine lv_iadd hx hb dX3_make_335 ?_
              refine lv_iload hx hb dX3_make_336 (lv_at hl 0 rfl) ?_
              refine q_cutL (v := (if bI (if (M_way ct) = 0 then true else (if bI ng = 0 then (if (M_way ct) = 2 then true else false) else (if (M_way ct) = 1 then true else false))) = 0 then (-1 : Int64) else (-9223372036854775808 : Int64))) (pcJ := 350) (rest := [.int ((if bI ng = 0 then (0 : Int32) else (32768 : Int32)) + (if bI (if (M_way ct) = 0 then true else (if bI ng = 0 then (if (M_way ct) = 2 then true else false) else (if (M_way ct) = 1 then true else false))) = 0 then (32766 : Int32) else (32767 : Int32))), .ref h]) (fun J => ?_) ?_
              · refine lv_if_eq (tgt := 347) hx hb dX3_make_338 (by decide) (fun c_19 => ?_) (fun c_19 => ?_)
                · refine lv_ldc2 (v := (-1)) hx hb hown w_2 dX3_make_347 ?_
                  exact J _ (by rw [if_pos c_19]; try rfl)
                · refine lv_ldc2 (v := (-9223372036854775808)) hx hb hown w_3 dX3_make_341 ?_
                  refine lv_goto (tgt := 350) hx hb dX3_make_344 (by decide) ?_
                  exact J _ (by rw [if_neg c_19]; try rfl)
              have hFc := va_free (wc := cMd h q1 q2 cA cB cd ct tf ff otd_12 an qb pa aT aF dg fi lo) hD hS hA [0, 1, 2] rfl
              refine va_callv (va_runV (As := [.int ((if bI ng = 0 then (0 : Int32) else (32768 : Int32)) + (if bI (if (M_way ct) = 0 then true else (if bI ng = 0 then (if (M_way ct) = 2 then true else false) else (if (M_way ct) = 1 then true else false))) = 0 then (32766 : Int32) else (32767 : Int32))), .long (if bI (if (M_way ct) = 0 then true else (if bI ng = 0 then (if (M_way ct) = 2 then true else false) else (if (M_way ct) = 1 then true else false))) = 0 then (-1 : Int64) else (-9223372036854775808 : Int64))]) (rest := []) ⟨hx, hb, hml, hown, hts⟩ (c_X3_answer l D h q1 q2 cA cB cd ct tf ff otd_12 an qb pa aT aF dg fi lo ((if bI ng = 0 then (0 : Int32) else (32768 : Int32)) + (if bI (if (M_way ct) = 0 then true else (if bI ng = 0 then (if (M_way ct) = 2 then true else false) else (if (M_way ct) = 1 then true else false))) = 0 then (32766 : Int32) else (32767 : Int32))) (if bI (if (M_way ct) = 0 then true else (if bI ng = 0 then (if (M_way ct) = 2 then true else false) else (if (M_way ct) = 1 then true else false))) = 0 then (-1 : Int64) else (-9223372036854775808 : Int64)) H.size) (cwV 2 hts gX3_make_X3_answer rfl rfl rfl kV_X3_answer ⟨Nat.le_of_ble_eq_true rfl, Nat.le_of_ble_eq_true rfl⟩) ⟨MMB.blind, va_recv hK hP (ci := 2) (q0 := 0) rfl rfl, MMB.pre hK hP hD⟩ rfl rfl hl.1 rfl (lv_room (Nat.le_of_ble_eq_true rfl)) dX3_make_350 ⟨Nat.le_of_ble_eq_true rfl, Nat.le_of_ble_eq_true rfl⟩) hS (fun q _ h9 => hFc q h9) hFc (fun u9 t9 H locs ht hvm hw hB hz1 hk1 hS => ?_)
              obtain ⟨oan_20, oaT_21, oaF_22, e_23, hP, hD9⟩ := hB
              rw [ht] at hP
              have hD : va_D A (cMd h q1 q2 cA cB cd ct tf ff otd_12 oan_20 qb pa oaT_21 oaF_22 dg fi lo) := hD9.weaken (fun _ _ _ h => hFc _ h)
              have hw : M_make ct td lo ng fr un = (otd_12, oan_20, oaT_21, oaF_22, lo) := by unfold M_make; rw [if_neg c_2, tup2_e e_3, if_pos c_4, if_pos c_6, if_neg c_7, tup2_e e_10, tup2_e e_13, tup3_e e_23]; try rfl
              exact W.vret hx hb hr (fun t9 ht hW => ⟨⟨(), rfl, trivial, ⟨otd_12, oan_20, oaT_21, oaF_22, lo, hw, by rw [ht]; exact hP, hD⟩⟩, hS.F ht⟩) hS.2.2 dX3_make_353
            · refine lv_aload_n hx hb dX3_make_245 rfl (lv_at hl 3 rfl) ?_
              refine lv_bipush (v := 8) hx hb dX3_make_246 (by decide) ?_
              have hFc := va_free (wc := cMd h q1 q2 cA cB cd ct tf ff td an qb pa aT aF dg fi lo) hD hS hA [0, 1, 2] rfl
              refine va_calli (va_runV (As := [.int 8]) (rest := []) ⟨hx, hb, hml, hown, hts⟩ (c_X3_tell l D h q1 q2 cA cB cd ct tf ff td an qb pa aT aF dg fi lo 8 H.size (by decide)) (cwV 1 hts gX3_make_X3_tell rfl rfl rfl kV_X3_tell ⟨Nat.le_of_ble_eq_true rfl, Nat.le_of_ble_eq_true rfl⟩) ⟨MMB.blind, va_recv hK hP (ci := 2) (q0 := 0) rfl rfl, MMB.pre hK hP hD⟩ rfl rfl hl.1 rfl (lv_room (Nat.le_of_ble_eq_true rfl)) dX3_make_248 ⟨Nat.le_of_ble_eq_true rfl, Nat.le_of_ble_eq_true rfl⟩) hS (fun q _ h9 => hFc q h9) hFc (fun r9 v_24 t9 H locs ht hvm hw hB hz1 hk1 hS => ?_)
              obtain rfl := hw
              obtain ⟨otd_25, e_26, hP, hD9⟩ := hB
              rw [ht] at hP
              have hD : va_D A (cMd h q1 q2 cA cB cd ct tf ff otd_25 an qb pa aT aF dg fi lo) := hD9.weaken (fun _ _ _ h => hFc _ h)
              refine lv_pop hx hb dX3_make_251 rfl ?_
              refine lv_aload_n hx hb dX3_make_252 rfl (lv_at hl 3 rfl) ?_
              refine lv_iload hx hb dX3_make_253 (lv_at hl 2 rfl) ?_
              refine lv_iload hx hb dX3_make_255 (lv_at hl 0 rfl) ?_
              refine lv_iadd hx hb dX3_make_257 ?_
              refine lv_sipush (v := 16383) hx hb dX3_make_258 (by decide) ?_
              refine lv_iadd hx hb dX3_make_261 ?_
              refine lv_sipush (v := 24576) hx hb dX3_make_262 (by decide) ?_
              refine lv_isub hx hb dX3_make_265 ?_
              refine lv_lload hx hb dX3_make_266 (lv_at hl 1 rfl) ?_
              have hFc := va_free (wc := cMd h q1 q2 cA cB cd ct tf ff otd_25 an qb pa aT aF dg fi lo) hD hS hA [0, 1, 2] rfl
              refine va_callv (va_runV (As := [.int ((((if bI ng = 0 then (0 : Int32) else (32768 : Int32)) + v2) + 16383) - 24576), .long v1]) (rest := []) ⟨hx, hb, hml, hown, hts⟩ (c_X3_answer l D h q1 q2 cA cB cd ct tf ff otd_25 an qb pa aT aF dg fi lo ((((if bI ng = 0 then (0 : Int32) else (32768 : Int32)) + v2) + 16383) - 24576) v1 H.size) (cwV 2 hts gX3_make_X3_answer rfl rfl rfl kV_X3_answer ⟨Nat.le_of_ble_eq_true rfl, Nat.le_of_ble_eq_true rfl⟩) ⟨MMB.blind, va_recv hK hP (ci := 2) (q0 := 0) rfl rfl, MMB.pre hK hP hD⟩ rfl rfl hl.1 rfl (lv_room (Nat.le_of_ble_eq_true rfl)) dX3_make_268 ⟨Nat.le_of_ble_eq_true rfl, Nat.le_of_ble_eq_true rfl⟩) hS (fun q _ h9 => hFc q h9) hFc (fun u9 t9 H locs ht hvm hw hB hz1 hk1 hS => ?_)
              obtain ⟨oan_27, oaT_28, oaF_29, e_30, hP, hD9⟩ := hB
              rw [ht] at hP
              have hD : va_D A (cMd h q1 q2 cA cB cd ct tf ff otd_25 oan_27 qb pa oaT_28 oaF_29 dg fi lo) := hD9.weaken (fun _ _ _ h => hFc _ h)
              refine lv_goto (tgt := 353) hx hb dX3_make_271 (by decide) ?_
              have hw : M_make ct td lo ng fr un = (otd_25, oan_27, oaT_28, oaF_29, lo) := by unfold M_make; rw [if_neg c_2, tup2_e e_3, if_pos c_4, if_pos c_6, if_pos c_7, tup2_e e_26, tup3_e e_30]; try rfl
              exact W.vret hx hb hr (fun t9 ht hW => ⟨⟨(), rfl, trivial, ⟨otd_25, oan_27, oaT_28, oaF_29, lo, hw, by rw [ht]; exact hP, hD⟩⟩, hS.F ht⟩) hS.2.2 dX3_make_353
          · refine lv_aload_n hx hb dX3_make_218 rfl (lv_at hl 3 rfl) ?_
            refine lv_iload hx hb dX3_make_219 (lv_at hl 2 rfl) ?_
            refine lv_iload hx hb dX3_make_221 (lv_at hl 0 rfl) ?_
            refine lv_iadd hx hb dX3_make_223 ?_
            refine lv_sipush (v := 16383) hx hb dX3_make_224 (by decide) ?_
            refine lv_iadd hx hb dX3_make_227 ?_
            refine lv_lload hx hb dX3_make_228 (lv_at hl 1 rfl) ?_
            have hFc := va_free (wc := cMd h q1 q2 cA cB cd ct tf ff td an qb pa aT aF dg fi lo) hD hS hA [0, 1, 2] rfl
            refine va_callv (va_runV (As := [.int (((if bI ng = 0 then (0 : Int32) else (32768 : Int32)) + v2) + 16383), .long v1]) (rest := []) ⟨hx, hb, hml, hown, hts⟩ (c_X3_answer l D h q1 q2 cA cB cd ct tf ff td an qb pa aT aF dg fi lo (((if bI ng = 0 then (0 : Int32) else (32768 : Int32)) + v2) + 16383) v1 H.size) (cwV 2 hts gX3_make_X3_answer rfl rfl rfl kV_X3_answer ⟨Nat.le_of_ble_eq_true rfl, Nat.le_of_ble_eq_true rfl⟩) ⟨MMB.blind, va_recv hK hP (ci := 2) (q0 := 0) rfl rfl, MMB.pre hK hP hD⟩ rfl rfl hl.1 rfl (lv_room (Nat.le_of_ble_eq_true rfl)) dX3_make_230 ⟨Nat.le_of_ble_eq_true rfl, Nat.le_of_ble_eq_true rfl⟩) hS (fun q _ h9 => hFc q h9) hFc (fun u9 t9 H locs ht hvm hw hB hz1 hk1 hS => ?_)
            obtain ⟨oan_31, oaT_32, oaF_33, e_34, hP, hD9⟩ := hB
            rw [ht] at hP
            have hD : va_D A (cMd h q1 q2 cA cB cd ct tf ff td oan_31 qb pa oaT_32 oaF_33 dg fi lo) := hD9.weaken (fun _ _ _ h => hFc _ h)
            refine lv_goto (tgt := 353) hx hb dX3_make_233 (by decide) ?_
            have hw : M_make ct td lo ng fr un = (td, oan_31, oaT_32, oaF_33, lo) := by unfold M_make; rw [if_neg c_2, tup2_e e_3, if_pos c_4, if_neg c_6, tup3_e e_34]; try rfl
            exact W.vret hx hb hr (fun t9 ht hW => ⟨⟨(), rfl, trivial, ⟨td, oan_31, oaT_32, oaF_33, lo, hw, by rw [ht]; exact hP, hD⟩⟩, hS.F ht⟩) hS.2.2 dX3_make_353
        · exact absurd c_4 c_5
      · refine lv_aload_n hx hb dX3_make_65 rfl (lv_at hl 3 rfl) ?_
        refine lv_bipush (v := 16) hx hb dX3_make_66 (by decide) ?_
        refine vp_callSi (va_cr (va_runV (As := [.int 16]) (rest := []) ⟨hx, hb, hml, hown, hts⟩ (c_X3_masked l D h q1 q2 cA cB cd ct tf ff td an qb pa aT aF dg fi lo 16 (by decide)) (cwV 1 hts gX3_make_X3_masked rfl rfl rfl kV_X3_masked ⟨Nat.le_of_ble_eq_true rfl, Nat.le_of_ble_eq_true rfl⟩) ⟨PB.blind, va_recv hK hP (ci := 2) (q0 := 0) rfl rfl, PB.pre hK hP⟩ rfl rfl hl.1 rfl (lv_room (Nat.le_of_ble_eq_true rfl)) dX3_make_68 ⟨Nat.le_of_ble_eq_true rfl, Nat.le_of_ble_eq_true rfl⟩)) (fun r9 e9 => ?_)
        rw [e9]
        refine lv_if_eq (tgt := 173) hx hb dX3_make_71 (by decide) (fun c_35 => ?_) (fun c_35 => ?_)
        · refine lv_iload hx hb dX3_make_173 (lv_at hl 0 rfl) ?_
          refine lv_sipush (v := (-16382)) hx hb dX3_make_175 (by decide) ?_
          refine lv_icmp_ge (tgt := 210) hx hb dX3_make_178 (by decide) (fun c_36 => ?_) (fun c_36 => ?_)
          · exact absurd c_36 c_4
          · refine lv_aload_n hx hb dX3_make_181 rfl (lv_at hl 3 rfl) ?_
            refine lv_bipush (v := 16) hx hb dX3_make_182 (by decide) ?_
            have hFc := va_free (wc := cMd h q1 q2 cA cB cd ct tf ff td an qb pa aT aF dg fi lo) hD hS hA [0, 1, 2] rfl
            refine va_calli (va_runV (As := [.int 16]) (rest := []) ⟨hx, hb, hml, hown, hts⟩ (c_X3_tell l D h q1 q2 cA cB cd ct tf ff td an qb pa aT aF dg fi lo 16 H.size (by decide)) (cwV 1 hts gX3_make_X3_tell rfl rfl rfl kV_X3_tell ⟨Nat.le_of_ble_eq_true rfl, Nat.le_of_ble_eq_true rfl⟩) ⟨MMB.blind, va_recv hK hP (ci := 2) (q0 := 0) rfl rfl, MMB.pre hK hP hD⟩ rfl rfl hl.1 rfl (lv_room (Nat.le_of_ble_eq_true rfl)) dX3_make_184 ⟨Nat.le_of_ble_eq_true rfl, Nat.le_of_ble_eq_true rfl⟩) hS (fun q _ h9 => hFc q h9) hFc (fun r9 v_37 t9 H locs ht hvm hw hB hz1 hk1 hS => ?_)
            obtain rfl := hw
            obtain ⟨otd_38, e_39, hP, hD9⟩ := hB
            rw [ht] at hP
            have hD : va_D A (cMd h q1 q2 cA cB cd ct tf ff otd_38 an qb pa aT aF dg fi lo) := hD9.weaken (fun _ _ _ h => hFc _ h)
            refine lv_pop hx hb dX3_make_187 rfl ?_
            refine lv_aload_n hx hb dX3_make_188 rfl (lv_at hl 3 rfl) ?_
            refine lv_iload hx hb dX3_make_189 (lv_at hl 2 rfl) ?_
            refine lv_iload hx hb dX3_make_191 (lv_at hl 0 rfl) ?_
            refine lv_iadd hx hb dX3_make_193 ?_
            refine lv_sipush (v := 16383) hx hb dX3_make_194 (by decide) ?_
            refine lv_iadd hx hb dX3_make_197 ?_
            refine lv_sipush (v := 24576) hx hb dX3_make_198 (by decide) ?_
            refine lv_iadd hx hb dX3_make_201 ?_
            refine lv_lload hx hb dX3_make_202 (lv_at hl 1 rfl) ?_
            have hFc := va_free (wc := cMd h q1 q2 cA cB cd ct tf ff otd_38 an qb pa aT aF dg fi lo) hD hS hA [0, 1, 2] rfl
            refine va_callv (va_runV (As := [.int ((((if bI ng = 0 then (0 : Int32) else (32768 : Int32)) + v2) + 16383) + 24576), .long v1]) (rest := []) ⟨hx, hb, hml, hown, hts⟩ (c_X3_answer l D h q1 q2 cA cB cd ct tf ff otd_38 an qb pa aT aF dg fi lo ((((if bI ng = 0 then (0 : Int32) else (32768 : Int32)) + v2) + 16383) + 24576) v1 H.size) (cwV 2 hts gX3_make_X3_answer rfl rfl rfl kV_X3_answer ⟨Nat.le_of_ble_eq_true rfl, Nat.le_of_ble_eq_true rfl⟩) ⟨MMB.blind, va_recv hK hP (ci := 2) (q0 := 0) rfl rfl, MMB.pre hK hP hD⟩ rfl rfl hl.1 rfl (lv_room (Nat.le_of_ble_eq_true rfl)) dX3_make_204 ⟨Nat.le_of_ble_eq_true rfl, Nat.le_of_ble_eq_true rfl⟩) hS (fun q _ h9 => hFc q h9) hFc (fun u9 t9 H locs ht hvm hw hB hz1 hk1 hS => ?_)
            obtain ⟨oan_40, oaT_41, oaF_42, e_43, hP, hD9⟩ := hB
            rw [ht] at hP
            have hD : va_D A (cMd h q1 q2 cA cB cd ct tf ff otd_38 oan_40 qb pa oaT_41 oaF_42 dg fi lo) := hD9.weaken (fun _ _ _ h => hFc _ h)
            refine lv_goto (tgt := 353) hx hb dX3_make_207 (by decide) ?_
            have hw : M_make ct td lo ng fr un = (otd_38, oan_40, oaT_41, oaF_42, lo) := by unfold M_make; rw [if_neg c_2, tup2_e e_3, if_neg c_4, if_pos c_35, tup2_e e_39, tup3_e e_43]; try rfl
            exact W.vret hx hb hr (fun t9 ht hW => ⟨⟨(), rfl, trivial, ⟨otd_38, oan_40, oaT_41, oaF_42, lo, hw, by rw [ht]; exact hP, hD⟩⟩, hS.F ht⟩) hS.2.2 dX3_make_353
        · refine lv_sipush (v := (-16445)) hx hb dX3_make_74 (by decide) ?_
          refine lv_iload hx hb dX3_make_77 (lv_at hl 6 rfl) ?_
          refine lv_isub hx hb dX3_make_79 ?_
          refine lv_istore (lv' := [(9, .int ((-16445) - un)), (8, .int v2), (6, .long v1), (5, .int (if bI ng = 0 then (0 : Int32) else (32768 : Int32))), (0, .ref h), (1, .int (bI ng)), (2, .long fr), (4, .int un)]) hx hb dX3_make_80 hl (by decide) rfl (fun ls hl => ?_)
          refine lv_lload_n hx hb dX3_make_82 rfl (lv_at hl 6 rfl) ?_
          refine lv_lstore (lv' := [(10, .long fr), (9, .int ((-16445) - un)), (8, .int v2), (6, .long v1), (5, .int (if bI ng = 0 then (0 : Int32) else (32768 : Int32))), (0, .ref h), (1, .int (bI ng)), (2, .long fr), (4, .int un)]) hx hb dX3_make_83 hl (by decide) rfl (fun ls hl => ?_)
          refine lv_aload_n hx hb dX3_make_85 rfl (lv_at hl 5 rfl) ?_
          refine lv_iconst (v := 0) hx hb dX3_make_86 (by decide) ?_
          refine va_put (v := .int 0) (ty := .boolean) (C := RX3) (T := TX3) (N := 13) hx hb hts in_X3 tyX3 tyX3_ok nmX3 hown hK hP hD hS 0 rfl rfl 12 (by decide) w_4 (fun _ h9 => h9) rfl (tyX3_ok 12 (by decide)) rfl rfl (Nat.le_of_ble_eq_true rfl) dX3_make_87 (fun H locs hP hD hS => ?_)
          have hP : va_P D vwCl (cMd h q1 q2 cA cB cd ct tf ff td an qb pa aT aF dg fi false) H := hP
          have hD : va_D A (cMd h q1 q2 cA cB cd ct tf ff td an qb pa aT aF dg fi false) := hD
          refine lv_iload hx hb dX3_make_90 (lv_at hl 1 rfl) ?_
          refine lv_if_le (tgt := 105) hx hb dX3_make_92 (by decide) (fun c_44 => ?_) (fun c_44 => ?_)
          · refine lv_iload hx hb dX3_make_105 (lv_at hl 1 rfl) ?_
            refine lv_istore (lv' := [(12, .int ((-16445) - un)), (10, .long fr), (9, .int ((-16445) - un)), (8, .int v2), (6, .long v1), (5, .int (if bI ng = 0 then (0 : Int32) else (32768 : Int32))), (0, .ref h), (1, .int (bI ng)), (2, .long fr), (4, .int un)]) hx hb dX3_make_107 hl (by decide) rfl (fun ls hl => ?_)
            have EXIT : ∀ (w1 : Int64) (w2 : Int32), M_shL ((-((-16445) - un).toInt).toNat + 1) fr ((-16445) - un) = (w1, w2) → ∀ (H : Heap) (locs : List Loc) (ls : Array Slot), va_P D vwCl (cMd h q1 q2 cA cB cd ct tf ff td an qb pa aT aF dg fi false) H → va_D A (cMd h q1 q2 cA cB cd ct tf ff td an qb pa aT aF dg fi false) → va_S A s.heap H locs → lv_has ls 13 [(12, .int w2), (10, .long w1), (9, .int ((-16445) - un)), (8, .int v2), (6, .long v1), (5, .int (if bI ng = 0 then (0 : Int32) else (32768 : Int32))), (0, .ref h), (1, .int (bI ng)), (2, .long fr), (4, .int un)] → W p l e (headSpec wsX3_make ({ frames := 2, cells := 0, slots := 0, locals := 49 } : Room)).room s m ([.ref h, .int (bI ng), .long fr, .int un]).toArray below meth c H locs 0 0 (MQ below (va_Qv (fun (_ : Unit) => True) (fun _ t => ∃ (w_td : Int32) (w_an : Bool) (w_aT : Int32) (w_aF : Int64) (w_lo : Bool), M_make ct td lo ng fr un = (w_td, w_an, w_aT, w_aF, w_lo) ∧ va_P D vwCl (cMd h q1 q2 cA cB cd ct tf ff w_td w_an qb pa w_aT w_aF dg fi w_lo) t.heap ∧ va_D A (cMd h q1 q2 cA cB cd ct tf ff w_td w_an qb pa w_aT w_aF dg fi w_lo)) A) ([.ref h, .int (bI ng), .long fr, .int un]).toArray s 0 0 A) (F0 m 128 ls []) := by
              intro w1 w2 e_45 H locs ls hP hD hS hl
              refine lv_aload_n hx hb dX3_make_128 rfl (lv_at hl 6 rfl) ?_
              refine va_get (v := .int (bI false)) (C := RX3) (T := TX3) (N := 13) hx hb hts in_X3 hown hK hP 0 rfl rfl 12 (by decide) w_4 (fun _ h9 => h9) rfl dX3_make_129 ?_
              refine lv_if_eq (tgt := 149) hx hb dX3_make_132 (by decide) (fun c_46 => ?_) (fun c_46 => ?_)
              · refine lv_aload_n hx hb dX3_make_149 rfl (lv_at hl 6 rfl) ?_
                refine lv_iload hx hb dX3_make_150 (lv_at hl 5 rfl) ?_
                refine lv_lload hx hb dX3_make_152 (lv_at hl 1 rfl) ?_
                refine lv_lconst (v := 0) hx hb dX3_make_154 (by decide) ?_
                refine q_cut (v := bI (if w1 < 0 then true else false)) (pcJ := 164) (rest := [.int (if bI ng = 0 then (0 : Int32) else (32768 : Int32)), .ref h]) (fun J => ?_) ?_
                · refine q_cl_ge (tgt := 163) hx hb dX3_make_155 dX3_make_156 (by decide) (fun c_47 => ?_) (fun c_47 => ?_)
                  · refine lv_iconst (v := 0) hx hb dX3_make_163 (by decide) ?_
                    exact J _ (by rw [if_neg c_47]; try rfl)
                  · refine lv_iconst (v := 1) hx hb dX3_make_159 (by decide) ?_
                    refine lv_goto (tgt := 164) hx hb dX3_make_160 (by decide) ?_
                    exact J _ (by rw [if_pos c_47]; try rfl)
                refine lv_iadd hx hb dX3_make_164 ?_
                refine lv_lload hx hb dX3_make_165 (lv_at hl 1 rfl) ?_
                have hFc := va_free (wc := cMd h q1 q2 cA cB cd ct tf ff td an qb pa aT aF dg fi false) hD hS hA [0, 1, 2] rfl
                refine va_callv (va_runV (As := [.int ((if bI ng = 0 then (0 : Int32) else (32768 : Int32)) + (bI (if w1 < 0 then true else false))), .long w1]) (rest := []) ⟨hx, hb, hml, hown, hts⟩ (c_X3_answer l D h q1 q2 cA cB cd ct tf ff td an qb pa aT aF dg fi false ((if bI ng = 0 then (0 : Int32) else (32768 : Int32)) + (bI (if w1 < 0 then true else false))) w1 H.size) (cwV 2 hts gX3_make_X3_answer rfl rfl rfl kV_X3_answer ⟨Nat.le_of_ble_eq_true rfl, Nat.le_of_ble_eq_true rfl⟩) ⟨MMB.blind, va_recv hK hP (ci := 2) (q0 := 0) rfl rfl, MMB.pre hK hP hD⟩ rfl rfl hl.1 rfl (lv_room (Nat.le_of_ble_eq_true rfl)) dX3_make_167 ⟨Nat.le_of_ble_eq_true rfl, Nat.le_of_ble_eq_true rfl⟩) hS (fun q _ h9 => hFc q h9) hFc (fun u9 t9 H locs ht hvm hw hB hz1 hk1 hS => ?_)
                obtain ⟨oan_48, oaT_49, oaF_50, e_51, hP, hD9⟩ := hB
                rw [ht] at hP
                have hD : va_D A (cMd h q1 q2 cA cB cd ct tf ff td oan_48 qb pa oaT_49 oaF_50 dg fi false) := hD9.weaken (fun _ _ _ h => hFc _ h)
                refine lv_goto (tgt := 353) hx hb dX3_make_170 (by decide) ?_
                have hw : M_make ct td lo ng fr un = (td, oan_48, oaT_49, oaF_50, false) := by unfold M_make; rw [if_neg c_2, tup2_e e_3, if_neg c_4, if_neg c_35, if_pos c_44, tup2_e e_45, tup3_e e_51]; try rfl
                exact W.vret hx hb hr (fun t9 ht hW => ⟨⟨(), rfl, trivial, ⟨td, oan_48, oaT_49, oaF_50, false, hw, by rw [ht]; exact hP, hD⟩⟩, hS.F ht⟩) hS.2.2 dX3_make_353
              · exact absurd c_46 (by decide)
            have LOOP : ∀ (n : Nat) (w1 : Int64) (w2 : Int32), (-w2.toInt).toNat < n → M_shL n w1 w2 = M_shL ((-((-16445) - un).toInt).toNat + 1) fr ((-16445) - un) → ∀ (H : Heap) (locs : List Loc) (ls : Array Slot), va_P D vwCl (cMd h q1 q2 cA cB cd ct tf ff td an qb pa aT aF dg fi false) H → va_D A (cMd h q1 q2 cA cB cd ct tf ff td an qb pa aT aF dg fi false) → va_S A s.heap H locs → lv_has ls 13 [(12, .int w2), (10, .long w1), (9, .int ((-16445) - un)), (8, .int v2), (6, .long v1), (5, .int (if bI ng = 0 then (0 : Int32) else (32768 : Int32))), (0, .ref h), (1, .int (bI ng)), (2, .long fr), (4, .int un)] → W p l e (headSpec wsX3_make ({ frames := 2, cells := 0, slots := 0, locals := 49 } : Room)).room s m ([.ref h, .int (bI ng), .long fr, .int un]).toArray below meth c H locs 0 0 (MQ below (va_Qv (fun (_ : Unit) => True) (fun _ t => ∃ (w_td : Int32) (w_an : Bool) (w_aT : Int32) (w_aF : Int64) (w_lo : Bool), M_make ct td lo ng fr un = (w_td, w_an, w_aT, w_aF, w_lo) ∧ va_P D vwCl (cMd h q1 q2 cA cB cd ct tf ff w_td w_an qb pa w_aT w_aF dg fi w_lo) t.heap ∧ va_D A (cMd h q1 q2 cA cB cd ct tf ff w_td w_an qb pa w_aT w_aF dg fi w_lo)) A) ([.ref h, .int (bI ng), .long fr, .int un]).toArray s 0 0 A) (F0 m 109 ls []) := by
              intro n
              induction n with
              | zero => intro w1 w2 hmu; exact absurd hmu (Nat.not_lt_zero _)
              | succ n ih =>
                intro w1 w2 hmu hF H locs ls hP hD hS hl
                refine lv_iload hx hb dX3_make_109 (lv_at hl 0 rfl) ?_
                refine lv_if_ge (tgt := 128) hx hb dX3_make_111 (by decide) (fun c_52 => ?_) (fun c_52 => ?_)
                · rw [M_shL_S  n w1 w2] at hF; rw [if_pos c_52] at hF
                  exact EXIT w1 w2 hF.symm H locs ls hP hD hS (lv_sub hl [0, 1, 2, 3, 4, 5, 6, 7, 8, 9] rfl)
                · refine lv_ldc2 (v := 2) hx hb hown w_6 dX3_make_114 ?_
                  refine lv_lload hx hb dX3_make_117 (lv_at hl 1 rfl) ?_
                  refine lv_lmul hx hb dX3_make_119 ?_
                  refine lv_lstore (lv' := [(10, .long (2 * w1)), (12, .int w2), (9, .int ((-16445) - un)), (8, .int v2), (6, .long v1), (5, .int (if bI ng = 0 then (0 : Int32) else (32768 : Int32))), (0, .ref h), (1, .int (bI ng)), (2, .long fr), (4, .int un)]) hx hb dX3_make_120 hl (by decide) rfl (fun ls hl => ?_)
                  refine lv_iinc (v := (w2 + 1)) (lv' := [(12, .int (w2 + 1)), (10, .long (2 * w1)), (9, .int ((-16445) - un)), (8, .int v2), (6, .long v1), (5, .int (if bI ng = 0 then (0 : Int32) else (32768 : Int32))), (0, .ref h), (1, .int (bI ng)), (2, .long fr), (4, .int un)]) hx hb dX3_make_122 hl (k := 1) rfl rfl (by decide) rfl (fun ls hl => ?_)
                  refine lv_goto (tgt := 109) hx hb dX3_make_125 (by decide) ?_
                  exact ih (2 * w1) (w2 + 1) (mu_go (mu_neg c_52) hmu) (by rw [← hF, M_shL_S  n w1 w2, if_neg c_52]) H locs ls hP hD hS (lv_sub hl [0, 1, 2, 3, 4, 5, 6, 7, 8, 9] rfl)
            exact LOOP ((-((-16445) - un).toInt).toNat + 1) fr ((-16445) - un) (Nat.lt_succ_self _) rfl H _ ls hP hD hS (lv_sub hl [0, 1, 2, 3, 4, 5, 6, 7, 8, 9] rfl)
          · refine lv_aload_n hx hb dX3_make_95 rfl (lv_at hl 5 rfl) ?_
            refine lv_lload_n hx hb dX3_make_96 rfl (lv_at hl 7 rfl) ?_
            refine lv_iload hx hb dX3_make_97 (lv_at hl 1 rfl) ?_
            refine lv_iload_n hx hb dX3_make_99 rfl (lv_at hl 6 rfl) ?_
            have hFc := va_free (wc := cMd h q1 q2 cA cB cd ct tf ff td an qb pa aT aF dg fi false) hD hS hA [0, 1, 2] rfl
            refine va_calll (va_runV (As := [.long fr, .int ((-16445) - un), .int (bI ng)]) (rest := []) ⟨hx, hb, hml, hown, hts⟩ (c_X3_rounded l D h q1 q2 cA cB cd ct tf ff td an qb pa aT aF dg fi false fr ((-16445) - un) ng H.size) (cwV 3 hts gX3_make_X3_rounded rfl rfl rfl kV_X3_rounded ⟨Nat.le_of_ble_eq_true rfl, Nat.le_of_ble_eq_true rfl⟩) ⟨MMB.blind, va_recv hK hP (ci := 2) (q0 := 0) rfl rfl, MMB.pre hK hP hD⟩ rfl rfl hl.1 rfl (lv_room (Nat.le_of_ble_eq_true rfl)) dX3_make_100 ⟨Nat.le_of_ble_eq_true rfl, Nat.le_of_ble_eq_true rfl⟩) hS (fun q _ h9 => hFc q h9) hFc (fun v_53 u9 t9 H locs ht hvm hw hB hz1 hk1 hS => ?_)
            obtain rfl := hw
            obtain ⟨olo_54, e_55, hP, hD9⟩ := hB
            rw [ht] at hP
            have hD : va_D A (cMd h q1 q2 cA cB cd ct tf ff td an qb pa aT aF dg fi olo_54) := hD9.weaken (fun _ _ _ h => hFc _ h)
            refine lv_lstore (lv' := [(10, .long v_53), (9, .int ((-16445) - un)), (8, .int v2), (6, .long v1), (5, .int (if bI ng = 0 then (0 : Int32) else (32768 : Int32))), (0, .ref h), (1, .int (bI ng)), (2, .long fr), (4, .int un)]) hx hb dX3_make_103 hl (by decide) rfl (fun ls hl => ?_)
            refine lv_iload hx hb dX3_make_105 (lv_at hl 1 rfl) ?_
            refine lv_istore (lv' := [(12, .int ((-16445) - un)), (10, .long v_53), (9, .int ((-16445) - un)), (8, .int v2), (6, .long v1), (5, .int (if bI ng = 0 then (0 : Int32) else (32768 : Int32))), (0, .ref h), (1, .int (bI ng)), (2, .long fr), (4, .int un)]) hx hb dX3_make_107 hl (by decide) rfl (fun ls hl => ?_)
            have EXIT : ∀ (w1 : Int64) (w2 : Int32), M_shL ((-((-16445) - un).toInt).toNat + 1) v_53 ((-16445) - un) = (w1, w2) → ∀ (H : Heap) (locs : List Loc) (ls : Array Slot), va_P D vwCl (cMd h q1 q2 cA cB cd ct tf ff td an qb pa aT aF dg fi olo_54) H → va_D A (cMd h q1 q2 cA cB cd ct tf ff td an qb pa aT aF dg fi olo_54) → va_S A s.heap H locs → lv_has ls 13 [(12, .int w2), (10, .long w1), (9, .int ((-16445) - un)), (8, .int v2), (6, .long v1), (5, .int (if bI ng = 0 then (0 : Int32) else (32768 : Int32))), (0, .ref h), (1, .int (bI ng)), (2, .long fr), (4, .int un)] → W p l e (headSpec wsX3_make ({ frames := 2, cells := 0, slots := 0, locals := 49 } : Room)).room s m ([.ref h, .int (bI ng), .long fr, .int un]).toArray below meth c H locs 0 0 (MQ below (va_Qv (fun (_ : Unit) => True) (fun _ t => ∃ (w_td : Int32) (w_an : Bool) (w_aT : Int32) (w_aF : Int64) (w_lo : Bool), M_make ct td lo ng fr un = (w_td, w_an, w_aT, w_aF, w_lo) ∧ va_P D vwCl (cMd h q1 q2 cA cB cd ct tf ff w_td w_an qb pa w_aT w_aF dg fi w_lo) t.heap ∧ va_D A (cMd h q1 q2 cA cB cd ct tf ff w_td w_an qb pa w_aT w_aF dg fi w_lo)) A) ([.ref h, .int (bI ng), .long fr, .int un]).toArray s 0 0 A) (F0 m 128 ls []) := by
              intro w1 w2 e_56 H locs ls hP hD hS hl
              refine lv_aload_n hx hb dX3_make_128 rfl (lv_at hl 6 rfl) ?_
              refine va_get (v := .int (bI olo_54)) (C := RX3) (T := TX3) (N := 13) hx hb hts in_X3 hown hK hP 0 rfl rfl 12 (by decide) w_4 (fun _ h9 => h9) rfl dX3_make_129 ?_
              refine lv_if_eq (tgt := 149) hx hb dX3_make_132 (by decide) (fun c_57 => ?_) (fun c_57 => ?_)
              · refine lv_aload_n hx hb dX3_make_149 rfl (lv_at hl 6 rfl) ?_
                refine lv_iload hx hb dX3_make_150 (lv_at hl 5 rfl) ?_
                refine lv_lload hx hb dX3_make_152 (lv_at hl 1 rfl) ?_
                refine lv_lconst (v := 0) hx hb dX3_make_154 (by decide) ?_
                refine q_cut (v := bI (if w1 < 0 then true else false)) (pcJ := 164) (rest := [.int (if bI ng = 0 then (0 : Int32) else (32768 : Int32)), .ref h]) (fun J => ?_) ?_
                · refine q_cl_ge (tgt := 163) hx hb dX3_make_155 dX3_make_156 (by decide) (fun c_58 => ?_) (fun c_58 => ?_)
                  · refine lv_iconst (v := 0) hx hb dX3_make_163 (by decide) ?_
                    exact J _ (by rw [if_neg c_58]; try rfl)
                  · refine lv_iconst (v := 1) hx hb dX3_make_159 (by decide) ?_
                    refine lv_goto (tgt := 164) hx hb dX3_make_160 (by decide) ?_
                    exact J _ (by rw [if_pos c_58]; try rfl)
                refine lv_iadd hx hb dX3_make_164 ?_
                refine lv_lload hx hb dX3_make_165 (lv_at hl 1 rfl) ?_
                have hFc := va_free (wc := cMd h q1 q2 cA cB cd ct tf ff td an qb pa aT aF dg fi olo_54) hD hS hA [0, 1, 2] rfl
                refine va_callv (va_runV (As := [.int ((if bI ng = 0 then (0 : Int32) else (32768 : Int32)) + (bI (if w1 < 0 then true else false))), .long w1]) (rest := []) ⟨hx, hb, hml, hown, hts⟩ (c_X3_answer l D h q1 q2 cA cB cd ct tf ff td an qb pa aT aF dg fi olo_54 ((if bI ng = 0 then (0 : Int32) else (32768 : Int32)) + (bI (if w1 < 0 then true else false))) w1 H.size) (cwV 2 hts gX3_make_X3_answer rfl rfl rfl kV_X3_answer ⟨Nat.le_of_ble_eq_true rfl, Nat.le_of_ble_eq_true rfl⟩) ⟨MMB.blind, va_recv hK hP (ci := 2) (q0 := 0) rfl rfl, MMB.pre hK hP hD⟩ rfl rfl hl.1 rfl (lv_room (Nat.le_of_ble_eq_true rfl)) dX3_make_167 ⟨Nat.le_of_ble_eq_true rfl, Nat.le_of_ble_eq_true rfl⟩) hS (fun q _ h9 => hFc q h9) hFc (fun u9 t9 H locs ht hvm hw hB hz1 hk1 hS => ?_)
                obtain ⟨oan_59, oaT_60, oaF_61, e_62, hP, hD9⟩ := hB
                rw [ht] at hP
                have hD : va_D A (cMd h q1 q2 cA cB cd ct tf ff td oan_59 qb pa oaT_60 oaF_61 dg fi olo_54) := hD9.weaken (fun _ _ _ h => hFc _ h)
                refine lv_goto (tgt := 353) hx hb dX3_make_170 (by decide) ?_
                have hw : M_make ct td lo ng fr un = (td, oan_59, oaT_60, oaF_61, olo_54) := by unfold M_make; rw [if_neg c_2, tup2_e e_3, if_neg c_4, if_neg c_35, if_neg c_44, tup2_e e_55, tup2_e e_56, if_pos c_57, tup3_e e_62]; try rfl
                exact W.vret hx hb hr (fun t9 ht hW => ⟨⟨(), rfl, trivial, ⟨td, oan_59, oaT_60, oaF_61, olo_54, hw, by rw [ht]; exact hP, hD⟩⟩, hS.F ht⟩) hS.2.2 dX3_make_353
              · refine lv_aload_n hx hb dX3_make_135 rfl (lv_at hl 6 rfl) ?_
                refine lv_bipush (v := 16) hx hb dX3_make_136 (by decide) ?_
                have hFc := va_free (wc := cMd h q1 q2 cA cB cd ct tf ff td an qb pa aT aF dg fi olo_54) hD hS hA [0, 1, 2] rfl
                refine va_calli (va_runV (As := [.int 16]) (rest := []) ⟨hx, hb, hml, hown, hts⟩ (c_X3_tell l D h q1 q2 cA cB cd ct tf ff td an qb pa aT aF dg fi olo_54 16 H.size (by decide)) (cwV 1 hts gX3_make_X3_tell rfl rfl rfl kV_X3_tell ⟨Nat.le_of_ble_eq_true rfl, Nat.le_of_ble_eq_true rfl⟩) ⟨MMB.blind, va_recv hK hP (ci := 2) (q0 := 0) rfl rfl, MMB.pre hK hP hD⟩ rfl rfl hl.1 rfl (lv_room (Nat.le_of_ble_eq_true rfl)) dX3_make_138 ⟨Nat.le_of_ble_eq_true rfl, Nat.le_of_ble_eq_true rfl⟩) hS (fun q _ h9 => hFc q h9) hFc (fun r9 v_63 t9 H locs ht hvm hw hB hz1 hk1 hS => ?_)
                obtain rfl := hw
                obtain ⟨otd_64, e_65, hP, hD9⟩ := hB
                rw [ht] at hP
                have hD : va_D A (cMd h q1 q2 cA cB cd ct tf ff otd_64 an qb pa aT aF dg fi olo_54) := hD9.weaken (fun _ _ _ h => hFc _ h)
                refine lv_pop hx hb dX3_make_141 rfl ?_
                refine lv_aload_n hx hb dX3_make_142 rfl (lv_at hl 6 rfl) ?_
                refine lv_bipush (v := 32) hx hb dX3_make_143 (by decide) ?_
                have hFc := va_free (wc := cMd h q1 q2 cA cB cd ct tf ff otd_64 an qb pa aT aF dg fi olo_54) hD hS hA [0, 1, 2] rfl
                refine va_calli (va_runV (As := [.int 32]) (rest := []) ⟨hx, hb, hml, hown, hts⟩ (c_X3_tell l D h q1 q2 cA cB cd ct tf ff otd_64 an qb pa aT aF dg fi olo_54 32 H.size (by decide)) (cwV 1 hts gX3_make_X3_tell rfl rfl rfl kV_X3_tell ⟨Nat.le_of_ble_eq_true rfl, Nat.le_of_ble_eq_true rfl⟩) ⟨MMB.blind, va_recv hK hP (ci := 2) (q0 := 0) rfl rfl, MMB.pre hK hP hD⟩ rfl rfl hl.1 rfl (lv_room (Nat.le_of_ble_eq_true rfl)) dX3_make_145 ⟨Nat.le_of_ble_eq_true rfl, Nat.le_of_ble_eq_true rfl⟩) hS (fun q _ h9 => hFc q h9) hFc (fun r9 v_66 t9 H locs ht hvm hw hB hz1 hk1 hS => ?_)
                obtain rfl := hw
                obtain ⟨otd_67, e_68, hP, hD9⟩ := hB
                rw [ht] at hP
                have hD : va_D A (cMd h q1 q2 cA cB cd ct tf ff otd_67 an qb pa aT aF dg fi olo_54) := hD9.weaken (fun _ _ _ h => hFc _ h)
                refine lv_pop hx hb dX3_make_148 rfl ?_
                refine lv_aload_n hx hb dX3_make_149 rfl (lv_at hl 6 rfl) ?_
                refine lv_iload hx hb dX3_make_150 (lv_at hl 5 rfl) ?_
                refine lv_lload hx hb dX3_make_152 (lv_at hl 1 rfl) ?_
                refine lv_lconst (v := 0) hx hb dX3_make_154 (by decide) ?_
                refine q_cut (v := bI (if w1 < 0 then true else false)) (pcJ := 164) (rest := [.int (if bI ng = 0 then (0 : Int32) else (32768 : Int32)), .ref h]) (fun J => ?_) ?_
                · refine q_cl_ge (tgt := 163) hx hb dX3_make_155 dX3_make_156 (by decide) (fun c_69 => ?_) (fun c_69 => ?_)
                  · refine lv_iconst (v := 0) hx hb dX3_make_163 (by decide) ?_
                    exact J _ (by rw [if_neg c_69]; try rfl)
                  · refine lv_iconst (v := 1) hx hb dX3_make_159 (by decide) ?_
                    refine lv_goto (tgt := 164) hx hb dX3_make_160 (by decide) ?_
                    exact J _ (by rw [if_pos c_69]; try rfl)
                refine lv_iadd hx hb dX3_make_164 ?_
                refine lv_lload hx hb dX3_make_165 (lv_at hl 1 rfl) ?_
                have hFc := va_free (wc := cMd h q1 q2 cA cB cd ct tf ff otd_67 an qb pa aT aF dg fi olo_54) hD hS hA [0, 1, 2] rfl
                refine va_callv (va_runV (As := [.int ((if bI ng = 0 then (0 : Int32) else (32768 : Int32)) + (bI (if w1 < 0 then true else false))), .long w1]) (rest := []) ⟨hx, hb, hml, hown, hts⟩ (c_X3_answer l D h q1 q2 cA cB cd ct tf ff otd_67 an qb pa aT aF dg fi olo_54 ((if bI ng = 0 then (0 : Int32) else (32768 : Int32)) + (bI (if w1 < 0 then true else false))) w1 H.size) (cwV 2 hts gX3_make_X3_answer rfl rfl rfl kV_X3_answer ⟨Nat.le_of_ble_eq_true rfl, Nat.le_of_ble_eq_true rfl⟩) ⟨MMB.blind, va_recv hK hP (ci := 2) (q0 := 0) rfl rfl, MMB.pre hK hP hD⟩ rfl rfl hl.1 rfl (lv_room (Nat.le_of_ble_eq_true rfl)) dX3_make_167 ⟨Nat.le_of_ble_eq_true rfl, Nat.le_of_ble_eq_true rfl⟩) hS (fun q _ h9 => hFc q h9) hFc (fun u9 t9 H locs ht hvm hw hB hz1 hk1 hS => ?_)
                obtain ⟨oan_70, oaT_71, oaF_72, e_73, hP, hD9⟩ := hB
                rw [ht] at hP
                have hD : va_D A (cMd h q1 q2 cA cB cd ct tf ff otd_67 oan_70 qb pa oaT_71 oaF_72 dg fi olo_54) := hD9.weaken (fun _ _ _ h => hFc _ h)
                refine lv_goto (tgt := 353) hx hb dX3_make_170 (by decide) ?_
                have hw : M_make ct td lo ng fr un = (otd_67, oan_70, oaT_71, oaF_72, olo_54) := by unfold M_make; rw [if_neg c_2, tup2_e e_3, if_neg c_4, if_neg c_35, if_neg c_44, tup2_e e_55, tup2_e e_56, if_neg c_57, tup2_e e_65, tup2_e e_68, tup3_e e_73]; try rfl
                exact W.vret hx hb hr (fun t9 ht hW => ⟨⟨(), rfl, trivial, ⟨otd_67, oan_70, oaT_71, oaF_72, olo_54, hw, by rw [ht]; exact hP, hD⟩⟩, hS.F ht⟩) hS.2.2 dX3_make_353
            have LOOP : ∀ (n : Nat) (w1 : Int64) (w2 : Int32), (-w2.toInt).toNat < n → M_shL n w1 w2 = M_shL ((-((-16445) - un).toInt).toNat + 1) v_53 ((-16445) - un) → ∀ (H : Heap) (locs : List Loc) (ls : Array Slot), va_P D vwCl (cMd h q1 q2 cA cB cd ct tf ff td an qb pa aT aF dg fi olo_54) H → va_D A (cMd h q1 q2 cA cB cd ct tf ff td an qb pa aT aF dg fi olo_54) → va_S A s.heap H locs → lv_has ls 13 [(12, .int w2), (10, .long w1), (9, .int ((-16445) - un)), (8, .int v2), (6, .long v1), (5, .int (if bI ng = 0 then (0 : Int32) else (32768 : Int32))), (0, .ref h), (1, .int (bI ng)), (2, .long fr), (4, .int un)] → W p l e (headSpec wsX3_make ({ frames := 2, cells := 0, slots := 0, locals := 49 } : Room)).room s m ([.ref h, .int (bI ng), .long fr, .int un]).toArray below meth c H locs 0 0 (MQ below (va_Qv (fun (_ : Unit) => True) (fun _ t => ∃ (w_td : Int32) (w_an : Bool) (w_aT : Int32) (w_aF : Int64) (w_lo : Bool), M_make ct td lo ng fr un = (w_td, w_an, w_aT, w_aF, w_lo) ∧ va_P D vwCl (cMd h q1 q2 cA cB cd ct tf ff w_td w_an qb pa w_aT w_aF dg fi w_lo) t.heap ∧ va_D A (cMd h q1 q2 cA cB cd ct tf ff w_td w_an qb pa w_aT w_aF dg fi w_lo)) A) ([.ref h, .int (bI ng), .long fr, .int un]).toArray s 0 0 A) (F0 m 109 ls []) := by
              intro n
              induction n with
              | zero => intro w1 w2 hmu; exact absurd hmu (Nat.not_lt_zero _)
              | succ n ih =>
                intro w1 w2 hmu hF H locs ls hP hD hS hl
                refine lv_iload hx hb dX3_make_109 (lv_at hl 0 rfl) ?_
                refine lv_if_ge (tgt := 128) hx hb dX3_make_111 (by decide) (fun c_74 => ?_) (fun c_74 => ?_)
                · rw [M_shL_S  n w1 w2] at hF; rw [if_pos c_74] at hF
                  exact EXIT w1 w2 hF.symm H locs ls hP hD hS (lv_sub hl [0, 1, 2, 3, 4, 5, 6, 7, 8, 9] rfl)
                · refine lv_ldc2 (v := 2) hx hb hown w_6 dX3_make_114 ?_
                  refine lv_lload hx hb dX3_make_117 (lv_at hl 1 rfl) ?_
                  refine lv_lmul hx hb dX3_make_119 ?_
                  refine lv_lstore (lv' := [(10, .long (2 * w1)), (12, .int w2), (9, .int ((-16445) - un)), (8, .int v2), (6, .long v1), (5, .int (if bI ng = 0 then (0 : Int32) else (32768 : Int32))), (0, .ref h), (1, .int (bI ng)), (2, .long fr), (4, .int un)]) hx hb dX3_make_120 hl (by decide) rfl (fun ls hl => ?_)
                  refine lv_iinc (v := (w2 + 1)) (lv' := [(12, .int (w2 + 1)), (10, .long (2 * w1)), (9, .int ((-16445) - un)), (8, .int v2), (6, .long v1), (5, .int (if bI ng = 0 then (0 : Int32) else (32768 : Int32))), (0, .ref h), (1, .int (bI ng)), (2, .long fr), (4, .int un)]) hx hb dX3_make_122 hl (k := 1) rfl rfl (by decide) rfl (fun ls hl => ?_)
                  refine lv_goto (tgt := 109) hx hb dX3_make_125 (by decide) ?_
                  exact ih (2 * w1) (w2 + 1) (mu_go (mu_neg c_74) hmu) (by rw [← hF, M_shL_S  n w1 w2, if_neg c_74]) H locs ls hP hD hS (lv_sub hl [0, 1, 2, 3, 4, 5, 6, 7, 8, 9] rfl)
            exact LOOP ((-((-16445) - un).toInt).toNat + 1) v_53 ((-16445) - un) (Nat.lt_succ_self _) rfl H _ ls hP hD hS (lv_sub hl [0, 1, 2, 3, 4, 5, 6, 7, 8, 9] rfl)
    have LOOP : ∀ (n : Nat) (v1 : Int64) (v2 : Int32), mu_d v1 < n → M_mkL n v1 v2 = M_mkL (64) fr (un + 63) → ∀ (H : Heap) (locs : List Loc) (ls : Array Slot), va_P D vwCl (cMd h q1 q2 cA cB cd ct tf ff td an qb pa aT aF dg fi lo) H → va_D A (cMd h q1 q2 cA cB cd ct tf ff td an qb pa aT aF dg fi lo) → va_S A s.heap H locs → lv_has ls 13 [(8, .int v2), (6, .long v1), (5, .int (if bI ng = 0 then (0 : Int32) else (32768 : Int32))), (0, .ref h), (1, .int (bI ng)), (2, .long fr), (4, .int un)] → W p l e (headSpec wsX3_make ({ frames := 2, cells := 0, slots := 0, locals := 49 } : Room)).room s m ([.ref h, .int (bI ng), .long fr, .int un]).toArray below meth c H locs 0 0 (MQ below (va_Qv (fun (_ : Unit) => True) (fun _ t => ∃ (w_td : Int32) (w_an : Bool) (w_aT : Int32) (w_aF : Int64) (w_lo : Bool), M_make ct td lo ng fr un = (w_td, w_an, w_aT, w_aF, w_lo) ∧ va_P D vwCl (cMd h q1 q2 cA cB cd ct tf ff w_td w_an qb pa w_aT w_aF dg fi w_lo) t.heap ∧ va_D A (cMd h q1 q2 cA cB cd ct tf ff w_td w_an qb pa w_aT w_aF dg fi w_lo)) A) ([.ref h, .int (bI ng), .long fr, .int un]).toArray s 0 0 A) (F0 m 36 ls []) := by
      intro n
      induction n with
      | zero => intro v1 v2 hmu; exact absurd hmu (Nat.not_lt_zero _)
      | succ n ih =>
        intro v1 v2 hmu hF H locs ls hP hD hS hl
        refine lv_lload hx hb dX3_make_36 (lv_at hl 1 rfl) ?_
        refine lv_lconst (v := 0) hx hb dX3_make_38 (by decide) ?_
        refine q_cl_le (tgt := 57) hx hb dX3_make_39 dX3_make_40 (by decide) (fun c_75 => ?_) (fun c_75 => ?_)
        · rw [M_mkL_S  n v1 v2] at hF; rw [if_neg c_75] at hF
          exact EXIT v1 v2 hF.symm H locs ls hP hD hS (lv_sub hl [0, 1, 2, 3, 4, 5, 6] rfl)
        · refine lv_ldc2 (v := 2) hx hb hown w_6 dX3_make_43 ?_
          refine lv_lload hx hb dX3_make_46 (lv_at hl 1 rfl) ?_
          refine lv_lmul hx hb dX3_make_48 ?_
          refine lv_lstore (lv' := [(6, .long (2 * v1)), (8, .int v2), (5, .int (if bI ng = 0 then (0 : Int32) else (32768 : Int32))), (0, .ref h), (1, .int (bI ng)), (2, .long fr), (4, .int un)]) hx hb dX3_make_49 hl (by decide) rfl (fun ls hl => ?_)
          refine lv_iinc (v := (v2 + (-1))) (lv' := [(8, .int (v2 + (-1))), (6, .long (2 * v1)), (5, .int (if bI ng = 0 then (0 : Int32) else (32768 : Int32))), (0, .ref h), (1, .int (bI ng)), (2, .long fr), (4, .int un)]) hx hb dX3_make_51 hl (k := 1) rfl rfl (by decide) rfl (fun ls hl => ?_)
          refine lv_goto (tgt := 36) hx hb dX3_make_54 (by decide) ?_
          exact ih (2 * v1) (v2 + (-1)) (mu_go (mu_d2 c_75) hmu) (by rw [← hF, M_mkL_S  n v1 v2, if_pos c_75]) H locs ls hP hD hS (lv_sub hl [0, 1, 2, 3, 4, 5, 6] rfl)
    exact LOOP (64) fr (un + 63) (mu_d64 _) rfl s.heap _ ls hP hD hS (lv_sub hl [0, 1, 2, 3, 4, 5, 6] rfl)
  · refine lv_aload_n hx hb dX3_make_18 rfl (lv_at hl 1 rfl) ?_
    refine lv_iload hx hb dX3_make_19 (lv_at hl 0 rfl) ?_
    refine lv_lconst (v := 0) hx hb dX3_make_21 (by decide) ?_
    have hFc := va_free (wc := cMd h q1 q2 cA cB cd ct tf ff td an qb pa aT aF dg fi lo) hD hS hA [0, 1, 2] rfl
    refine va_callv (va_runV (As := [.int (if bI ng = 0 then (0 : Int32) else (32768 : Int32)), .long 0]) (rest := []) ⟨hx, hb, hml, hown, hts⟩ (c_X3_answer l D h q1 q2 cA cB cd ct tf ff td an qb pa aT aF dg fi lo (if bI ng = 0 then (0 : Int32) else (32768 : Int32)) 0 s.heap.size) (cwV 2 hts gX3_make_X3_answer rfl rfl rfl kV_X3_answer ⟨Nat.le_of_ble_eq_true rfl, Nat.le_of_ble_eq_true rfl⟩) ⟨MMB.blind, va_recv hK hP (ci := 2) (q0 := 0) rfl rfl, MMB.pre hK hP hD⟩ rfl rfl hl.1 rfl (lv_room (Nat.le_of_ble_eq_true rfl)) dX3_make_22 ⟨Nat.le_of_ble_eq_true rfl, Nat.le_of_ble_eq_true rfl⟩) hS (fun q _ h9 => hFc q h9) hFc (fun u9 t9 H locs ht hvm hw hB hz1 hk1 hS => ?_)
    obtain ⟨oan_76, oaT_77, oaF_78, e_79, hP, hD9⟩ := hB
    rw [ht] at hP
    have hD : va_D A (cMd h q1 q2 cA cB cd ct tf ff td oan_76 qb pa oaT_77 oaF_78 dg fi lo) := hD9.weaken (fun _ _ _ h => hFc _ h)
    have hw : M_make ct td lo ng fr un = (td, oan_76, oaT_77, oaF_78, lo) := by unfold M_make; rw [if_pos c_2, tup3_e e_79]; try rfl
    exact W.vret hx hb hr (fun t9 ht hW => ⟨⟨(), rfl, trivial, ⟨td, oan_76, oaT_77, oaF_78, lo, hw, by rw [ht]; exact hP, hD⟩⟩, hS.F ht⟩) hS.2.2 dX3_make_25
