def J_nlz32 (i : Int32) : Int32 :=
  if 0 < i then (if i < 65536 then (if i < 256 then (if i < 16 then (if i < 4 then (31 - (jiushr i 1))
          else (29 - (jiushr (jiushr i 2) 1)))
        else if (jiushr i 4) < 4 then (27 - (jiushr (jiushr i 4) 1))
        else (25 - (jiushr (jiushr (jiushr i 4) 2) 1)))
      else if (jiushr i 8) < 16 then (if (jiushr i 8) < 4 then (23 - (jiushr (jiushr i 8) 1))
        else (21 - (jiushr (jiushr (jiushr i 8) 2) 1)))
      else if (jiushr (jiushr i 8) 4) < 4 then (19 - (jiushr (jiushr (jiushr i 8) 4) 1))
      else (17 - (jiushr (jiushr (jiushr (jiushr i 8) 4) 2) 1)))
    else if (jiushr i 16) < 256 then (if (jiushr i 16) < 16 then (if (jiushr i 16) < 4 then (15 - (jiushr (jiushr i 16) 1))
        else (13 - (jiushr (jiushr (jiushr i 16) 2) 1)))
      else if (jiushr (jiushr i 16) 4) < 4 then (11 - (jiushr (jiushr (jiushr i 16) 4) 1))
      else (9 - (jiushr (jiushr (jiushr (jiushr i 16) 4) 2) 1)))
    else if (jiushr (jiushr i 16) 8) < 16 then (if (jiushr (jiushr i 16) 8) < 4 then (7 - (jiushr (jiushr (jiushr i 16) 8) 1))
      else (5 - (jiushr (jiushr (jiushr (jiushr i 16) 8) 2) 1)))
    else if (jiushr (jiushr (jiushr i 16) 8) 4) < 4 then (3 - (jiushr (jiushr (jiushr (jiushr i 16) 8) 4) 1))
    else (1 - (jiushr (jiushr (jiushr (jiushr (jiushr i 16) 8) 4) 2) 1)))
  else (if i = 0 then (32 : Int32) else (0 : Int32))
theorem kS_J6_numberOfLeadingZeros_0f7a4 : yJ6_numberOfLeadingZeros_0f7a4.cls ≠ "java/lang/invoke/MethodHandle" ∧ yJ6_numberOfLeadingZeros_0f7a4.cls ≠ "java/lang/invoke/VarHandle" ∧ (parseMethodDescriptor yJ6_numberOfLeadingZeros_0f7a4.desc).map (fun d => d.parameters.length) = some 1 := by decide +kernel
set_option maxHeartbeats 4000000 in
set_option maxRecDepth 100000 in
theorem c_J6_numberOfLeadingZeros_0f7a4 (l : Launch) (i : Int32) : Met l yJ6_numberOfLeadingZeros_0f7a4 wsJ6_numberOfLeadingZeros_0f7a4 ({ frames := 0, cells := 0, slots := 0, locals := 0 } : Room) (va_Pc [.int i] (fun _ => True)) (vp_Si (fun r => r = J_nlz32 i)) 0 0 (fun _ => False) := by
  refine Met.ofW (cc := cJ6_numberOfLeadingZeros_0f7a4) (maxL := 2) (ret := (some .int)) (by decide) rfl ?_
  intro p e s m args below meth c s₁ B hml hv
  obtain ⟨rfl, -⟩ := hv
  have hx := B.exec
  have hb := B.bytes
  have hr := B.returns
  have hts := atoms_spec (ws := wsJ6_numberOfLeadingZeros_0f7a4) B.pre
  have hown : s.vm.findClass RJ6 = some m.cls := findClass_of_methodNamed B.named
  have hlocks := B.notSynchronized
  have w_1 := hts (.constant RJ6 264 (65536)) (by decide +kernel)
  have hl := lv_entry ([.int i]) (n := 2) (Nat.le_of_ble_eq_true rfl)
  rw [lg_entry_eq]
  generalize (lg_sl ([.int i]) ++ List.replicate (2 - (lg_sl ([.int i])).length) Slot.unset).toArray = ls at hl ⊢
  have hl : lv_has ls 2 [(0, .int i)] := hl
  refine lv_iload_n hx hb dJ6_numberOfLeadingZeros_0f7a4_0 rfl (lv_at hl 0 rfl) ?_
  refine lv_if_gt (tgt := 15) hx hb dJ6_numberOfLeadingZeros_0f7a4_1 (by decide) (fun c_1 => ?_) (fun c_1 => ?_)
  · refine lv_bipush (v := 31) hx hb dJ6_numberOfLeadingZeros_0f7a4_15 (by decide) ?_
    refine lv_istore_n (lv' := [(1, .int 31), (0, .int i)]) hx hb dJ6_numberOfLeadingZeros_0f7a4_17 rfl hl (by decide) rfl (fun ls hl => ?_)
    refine lv_iload_n hx hb dJ6_numberOfLeadingZeros_0f7a4_18 rfl (lv_at hl 1 rfl) ?_
    refine lv_ldcw (v := 65536) hx hb hown w_1 dJ6_numberOfLeadingZeros_0f7a4_19 ?_
    refine lv_icmp_lt (tgt := 33) hx hb dJ6_numberOfLeadingZeros_0f7a4_22 (by decide) (fun c_2 => ?_) (fun c_2 => ?_)
    · refine lv_iload_n hx hb dJ6_numberOfLeadingZeros_0f7a4_33 rfl (lv_at hl 1 rfl) ?_
      refine lv_sipush (v := 256) hx hb dJ6_numberOfLeadingZeros_0f7a4_34 (by decide) ?_
      refine lv_icmp_lt (tgt := 48) hx hb dJ6_numberOfLeadingZeros_0f7a4_37 (by decide) (fun c_3 => ?_) (fun c_3 => ?_)
      · refine lv_iload_n hx hb dJ6_numberOfLeadingZeros_0f7a4_48 rfl (lv_at hl 1 rfl) ?_
        refine lv_bipush (v := 16) hx hb dJ6_numberOfLeadingZeros_0f7a4_49 (by decide) ?_
        refine lv_icmp_lt (tgt := 61) hx hb dJ6_numberOfLeadingZeros_0f7a4_51 (by decide) (fun c_4 => ?_) (fun c_4 => ?_)
        · refine lv_iload_n hx hb dJ6_numberOfLeadingZeros_0f7a4_61 rfl (lv_at hl 1 rfl) ?_
          refine lv_iconst (v := 4) hx hb dJ6_numberOfLeadingZeros_0f7a4_62 (by decide) ?_
          refine lv_icmp_lt (tgt := 73) hx hb dJ6_numberOfLeadingZeros_0f7a4_63 (by decide) (fun c_5 => ?_) (fun c_5 => ?_)
          · refine lv_iload_n hx hb dJ6_numberOfLeadingZeros_0f7a4_73 rfl (lv_at hl 0 rfl) ?_
            refine lv_iload_n hx hb dJ6_numberOfLeadingZeros_0f7a4_74 rfl (lv_at hl 1 rfl) ?_
            refine lv_iconst (v := 1) hx hb dJ6_numberOfLeadingZeros_0f7a4_75 (by decide) ?_
            refine lv_iushr (v := (jiushr i 1)) hx hb dJ6_numberOfLeadingZeros_0f7a4_76 rfl ?_
            refine lv_isub hx hb dJ6_numberOfLeadingZeros_0f7a4_77 ?_
            have hw : J_nlz32 i = (31 - (jiushr i 1)) := by unfold J_nlz32; rw [if_pos c_1, if_pos c_2, if_pos c_3, if_pos c_4, if_pos c_5]; try rfl
            exact W.iret hx hb hr (fun t9 ht hW => ⟨_, rfl, hw.symm, ht⟩) t_nil dJ6_numberOfLeadingZeros_0f7a4_78
          · refine lv_iinc (v := 29) (lv' := [(1, .int 29), (0, .int i)]) hx hb dJ6_numberOfLeadingZeros_0f7a4_66 hl (k := 0) rfl rfl (by decide) rfl (fun ls hl => ?_)
            refine lv_iload_n hx hb dJ6_numberOfLeadingZeros_0f7a4_69 rfl (lv_at hl 1 rfl) ?_
            refine lv_iconst (v := 2) hx hb dJ6_numberOfLeadingZeros_0f7a4_70 (by decide) ?_
            refine lv_iushr (v := (jiushr i 2)) hx hb dJ6_numberOfLeadingZeros_0f7a4_71 rfl ?_
            refine lv_istore_n (lv' := [(0, .int (jiushr i 2)), (1, .int 29)]) hx hb dJ6_numberOfLeadingZeros_0f7a4_72 rfl hl (by decide) rfl (fun ls hl => ?_)
            refine lv_iload_n hx hb dJ6_numberOfLeadingZeros_0f7a4_73 rfl (lv_at hl 1 rfl) ?_
            refine lv_iload_n hx hb dJ6_numberOfLeadingZeros_0f7a4_74 rfl (lv_at hl 0 rfl) ?_
            refine lv_iconst (v := 1) hx hb dJ6_numberOfLeadingZeros_0f7a4_75 (by decide) ?_
            refine lv_iushr (v := (jiushr (jiushr i 2) 1)) hx hb dJ6_numberOfLeadingZeros_0f7a4_76 rfl ?_
            refine lv_isub hx hb dJ6_numberOfLeadingZeros_0f7a4_77 ?_
            have hw : J_nlz32 i = (29 - (jiushr (jiushr i 2) 1)) := by unfold J_nlz32; rw [if_pos c_1, if_pos c_2, if_pos c_3, if_pos c_4, if_neg c_5]; try rfl
            exact W.iret hx hb hr (fun t9 ht hW => ⟨_, rfl, hw.symm, ht⟩) t_nil dJ6_numberOfLeadingZeros_0f7a4_78
        · refine lv_iinc (v := 27) (lv' := [(1, .int 27), (0, .int i)]) hx hb dJ6_numberOfLeadingZeros_0f7a4_54 hl (k := 0) rfl rfl (by decide) rfl (fun ls hl => ?_)
          refine lv_iload_n hx hb dJ6_numberOfLeadingZeros_0f7a4_57 rfl (lv_at hl 1 rfl) ?_
          refine lv_iconst (v := 4) hx hb dJ6_numberOfLeadingZeros_0f7a4_58 (by decide) ?_
          refine lv_iushr (v := (jiushr i 4)) hx hb dJ6_numberOfLeadingZeros_0f7a4_59 rfl ?_
          refine lv_istore_n (lv' := [(0, .int (jiushr i 4)), (1, .int 27)]) hx hb dJ6_numberOfLeadingZeros_0f7a4_60 rfl hl (by decide) rfl (fun ls hl => ?_)
          refine lv_iload_n hx hb dJ6_numberOfLeadingZeros_0f7a4_61 rfl (lv_at hl 0 rfl) ?_
          refine lv_iconst (v := 4) hx hb dJ6_numberOfLeadingZeros_0f7a4_62 (by decide) ?_
          refine lv_icmp_lt (tgt := 73) hx hb dJ6_numberOfLeadingZeros_0f7a4_63 (by decide) (fun c_6 => ?_) (fun c_6 => ?_)
          · refine lv_iload_n hx hb dJ6_numberOfLeadingZeros_0f7a4_73 rfl (lv_at hl 1 rfl) ?_
            refine lv_iload_n hx hb dJ6_numberOfLeadingZeros_0f7a4_74 rfl (lv_at hl 0 rfl) ?_
            refine lv_iconst (v := 1) hx hb dJ6_numberOfLeadingZeros_0f7a4_75 (by decide) ?_
            refine lv_iushr (v := (jiushr (jiushr i 4) 1)) hx hb dJ6_numberOfLeadingZeros_0f7a4_76 rfl ?_
            refine lv_isub hx hb dJ6_numberOfLeadingZeros_0f7a4_77 ?_
            have hw : J_nlz32 i = (27 - (jiushr (jiushr i 4) 1)) := by unfold J_nlz32; rw [if_pos c_1, if_pos c_2, if_pos c_3, if_neg c_4, if_pos c_6]; try rfl
            exact W.iret hx hb hr (fun t9 ht hW => ⟨_, rfl, hw.symm, ht⟩) t_nil dJ6_numberOfLeadingZeros_0f7a4_78
          · refine lv_iinc (v := 25) (lv' := [(1, .int 25), (0, .int (jiushr i 4))]) hx hb dJ6_numberOfLeadingZeros_0f7a4_66 hl (k := 1) rfl rfl (by decide) rfl (fun ls hl => ?_)
            refine lv_iload_n hx hb dJ6_numberOfLeadingZeros_0f7a4_69 rfl (lv_at hl 1 rfl) ?_
            refine lv_iconst (v := 2) hx hb dJ6_numberOfLeadingZeros_0f7a4_70 (by decide) ?_
            refine lv_iushr (v := (jiushr (jiushr i 4) 2)) hx hb dJ6_numberOfLeadingZeros_0f7a4_71 rfl ?_
            refine lv_istore_n (lv' := [(0, .int (jiushr (jiushr i 4) 2)), (1, .int 25)]) hx hb dJ6_numberOfLeadingZeros_0f7a4_72 rfl hl (by decide) rfl (fun ls hl => ?_)
            refine lv_iload_n hx hb dJ6_numberOfLeadingZeros_0f7a4_73 rfl (lv_at hl 1 rfl) ?_
            refine lv_iload_n hx hb dJ6_numberOfLeadingZeros_0f7a4_74 rfl (lv_at hl 0 rfl) ?_
            refine lv_iconst (v := 1) hx hb dJ6_numberOfLeadingZeros_0f7a4_75 (by decide) ?_
            refine lv_iushr (v := (jiushr (jiushr (jiushr i 4) 2) 1)) hx hb dJ6_numberOfLeadingZeros_0f7a4_76 rfl ?_
            refine lv_isub hx hb dJ6_numberOfLeadingZeros_0f7a4_77 ?_
            have hw : J_nlz32 i = (25 - (jiushr (jiushr (jiushr i 4) 2) 1)) := by unfold J_nlz32; rw [if_pos c_1, if_pos c_2, if_pos c_3, if_neg c_4, if_neg c_6]; try rfl
            exact W.iret hx hb hr (fun t9 ht hW => ⟨_, rfl, hw.symm, ht⟩) t_nil dJ6_numberOfLeadingZeros_0f7a4_78
      · refine lv_iinc (v := 23) (lv' := [(1, .int 23), (0, .int i)]) hx hb dJ6_numberOfLeadingZeros_0f7a4_40 hl (k := 0) rfl rfl (by decide) rfl (fun ls hl => ?_)
        refine lv_iload_n hx hb dJ6_numberOfLeadingZeros_0f7a4_43 rfl (lv_at hl 1 rfl) ?_
        refine lv_bipush (v := 8) hx hb dJ6_numberOfLeadingZeros_0f7a4_44 (by decide) ?_
        refine lv_iushr (v := (jiushr i 8)) hx hb dJ6_numberOfLeadingZeros_0f7a4_46 rfl ?_
        refine lv_istore_n (lv' := [(0, .int (jiushr i 8)), (1, .int 23)]) hx hb dJ6_numberOfLeadingZeros_0f7a4_47 rfl hl (by decide) rfl (fun ls hl => ?_)
        refine lv_iload_n hx hb dJ6_numberOfLeadingZeros_0f7a4_48 rfl (lv_at hl 0 rfl) ?_
        refine lv_bipush (v := 16) hx hb dJ6_numberOfLeadingZeros_0f7a4_49 (by decide) ?_
        refine lv_icmp_lt (tgt := 61) hx hb dJ6_numberOfLeadingZeros_0f7a4_51 (by decide) (fun c_7 => ?_) (fun c_7 => ?_)
        · refine lv_iload_n hx hb dJ6_numberOfLeadingZeros_0f7a4_61 rfl (lv_at hl 0 rfl) ?_
          refine lv_iconst (v := 4) hx hb dJ6_numberOfLeadingZeros_0f7a4_62 (by decide) ?_
          refine lv_icmp_lt (tgt := 73) hx hb dJ6_numberOfLeadingZeros_0f7a4_63 (by decide) (fun c_8 => ?_) (fun c_8 => ?_)
          · refine lv_iload_n hx hb dJ6_numberOfLeadingZeros_0f7a4_73 rfl (lv_at hl 1 rfl) ?_
            refine lv_iload_n hx hb dJ6_numberOfLeadingZeros_0f7a4_74 rfl (lv_at hl 0 rfl) ?_
            refine lv_iconst (v := 1) hx hb dJ6_numberOfLeadingZeros_0f7a4_75 (by decide) ?_
            refine lv_iushr (v := (jiushr (jiushr i 8) 1)) hx hb dJ6_numberOfLeadingZeros_0f7a4_76 rfl ?_
            refine lv_isub hx hb dJ6_numberOfLeadingZeros_0f7a4_77 ?_
            have hw : J_nlz32 i = (23 - (jiushr (jiushr i 8) 1)) := by unfold J_nlz32; rw [if_pos c_1, if_pos c_2, if_neg c_3, if_pos c_7, if_pos c_8]; try rfl
            exact W.iret hx hb hr (fun t9 ht hW => ⟨_, rfl, hw.symm, ht⟩) t_nil dJ6_numberOfLeadingZeros_0f7a4_78
          · refine lv_iinc (v := 21) (lv' := [(1, .int 21), (0, .int (jiushr i 8))]) hx hb dJ6_numberOfLeadingZeros_0f7a4_66 hl (k := 1) rfl rfl (by decide) rfl (fun ls hl => ?_)
            refine lv_iload_n hx hb dJ6_numberOfLeadingZeros_0f7a4_69 rfl (lv_at hl 1 rfl) ?_
            refine lv_iconst (v := 2) hx hb dJ6_numberOfLeadingZeros_0f7a4_70 (by decide) ?_
            refine lv_iushr (v := (jiushr (jiushr i 8) 2)) hx hb dJ6_numberOfLeadingZeros_0f7a4_71 rfl ?_
            refine lv_istore_n (lv' := [(0, .int (jiushr (jiushr i 8) 2)), (1, .int 21)]) hx hb dJ6_numberOfLeadingZeros_0f7a4_72 rfl hl (by decide) rfl (fun ls hl => ?_)
            refine lv_iload_n hx hb dJ6_numberOfLeadingZeros_0f7a4_73 rfl (lv_at hl 1 rfl) ?_
            refine lv_iload_n hx hb dJ6_numberOfLeadingZeros_0f7a4_74 rfl (lv_at hl 0 rfl) ?_
            refine lv_iconst (v := 1) hx hb dJ6_numberOfLeadingZeros_0f7a4_75 (by decide) ?_
            refine lv_iushr (v := (jiushr (jiushr (jiushr i 8) 2) 1)) hx hb dJ6_numberOfLeadingZeros_0f7a4_76 rfl ?_
            refine lv_isub hx hb dJ6_numberOfLeadingZeros_0f7a4_77 ?_
            have hw : J_nlz32 i = (21 - (jiushr (jiushr (jiushr i 8) 2) 1)) := by unfold J_nlz32; rw [if_pos c_1, if_pos c_2, if_neg c_3, if_pos c_7, if_neg c_8]; try rfl
            exact W.iret hx hb hr (fun t9 ht hW => ⟨_, rfl, hw.symm, ht⟩) t_nil dJ6_numberOfLeadingZeros_0f7a4_78
        · refine lv_iinc (v := 19) (lv' := [(1, .int 19), (0, .int (jiushr i 8))]) hx hb dJ6_numberOfLeadingZeros_0f7a4_54 hl (k := 1) rfl rfl (by decide) rfl (fun ls hl => ?_)
          refine lv_iload_n hx hb dJ6_numberOfLeadingZeros_0f7a4_57 rfl (lv_at hl 1 rfl) ?_
          refine lv_iconst (v := 4) hx hb dJ6_numberOfLeadingZeros_0f7a4_58 (by decide) ?_
          refine lv_iushr (v := (jiushr (jiushr i 8) 4)) hx hb dJ6_numberOfLeadingZeros_0f7a4_59 rfl ?_
          refine lv_istore_n (lv' := [(0, .int (jiushr (jiushr i 8) 4)), (1, .int 19)]) hx hb dJ6_numberOfLeadingZeros_0f7a4_60 rfl hl (by decide) rfl (fun ls hl => ?_)
          refine lv_iload_n hx hb dJ6_numberOfLeadingZeros_0f7a4_61 rfl (lv_at hl 0 rfl) ?_
          refine lv_iconst (v := 4) hx hb dJ6_numberOfLeadingZeros_0f7a4_62 (by decide) ?_
          refine lv_icmp_lt (tgt := 73) hx hb dJ6_numberOfLeadingZeros_0f7a4_63 (by decide) (fun c_9 => ?_) (fun c_9 => ?_)
          · refine lv_iload_n hx hb dJ6_numberOfLeadingZeros_0f7a4_73 rfl (lv_at hl 1 rfl) ?_
            refine lv_iload_n hx hb dJ6_numberOfLeadingZeros_0f7a4_74 rfl (lv_at hl 0 rfl) ?_
            refine lv_iconst (v := 1) hx hb dJ6_numberOfLeadingZeros_0f7a4_75 (by decide) ?_
            refine lv_iushr (v := (jiushr (jiushr (jiushr i 8) 4) 1)) hx hb dJ6_numberOfLeadingZeros_0f7a4_76 rfl ?_
            refine lv_isub hx hb dJ6_numberOfLeadingZeros_0f7a4_77 ?_
            have hw : J_nlz32 i = (19 - (jiushr (jiushr (jiushr i 8) 4) 1)) := by unfold J_nlz32; rw [if_pos c_1, if_pos c_2, if_neg c_3, if_neg c_7, if_pos c_9]; try rfl
            exact W.iret hx hb hr (fun t9 ht hW => ⟨_, rfl, hw.symm, ht⟩) t_nil dJ6_numberOfLeadingZeros_0f7a4_78
          · refine lv_iinc (v := 17) (lv' := [(1, .int 17), (0, .int (jiushr (jiushr i 8) 4))]) hx hb dJ6_numberOfLeadingZeros_0f7a4_66 hl (k := 1) rfl rfl (by decide) rfl (fun ls hl => ?_)
            refine lv_iload_n hx hb dJ6_numberOfLeadingZeros_0f7a4_69 rfl (lv_at hl 1 rfl) ?_
            refine lv_iconst (v := 2) hx hb dJ6_numberOfLeadingZeros_0f7a4_70 (by decide) ?_
            refine lv_iushr (v := (jiushr (jiushr (jiushr i 8) 4) 2)) hx hb dJ6_numberOfLeadingZeros_0f7a4_71 rfl ?_
            refine lv_istore_n (lv' := [(0, .int (jiushr (jiushr (jiushr i 8) 4) 2)), (1, .int 17)]) hx hb dJ6_numberOfLeadingZeros_0f7a4_72 rfl hl (by decide) rfl (fun ls hl => ?_)
            refine lv_iload_n hx hb dJ6_numberOfLeadingZeros_0f7a4_73 rfl (lv_at hl 1 rfl) ?_
            refine lv_iload_n hx hb dJ6_numberOfLeadingZeros_0f7a4_74 rfl (lv_at hl 0 rfl) ?_
            refine lv_iconst (v := 1) hx hb dJ6_numberOfLeadingZeros_0f7a4_75 (by decide) ?_
            refine lv_iushr (v := (jiushr (jiushr (jiushr (jiushr i 8) 4) 2) 1)) hx hb dJ6_numberOfLeadingZeros_0f7a4_76 rfl ?_
            refine lv_isub hx hb dJ6_numberOfLeadingZeros_0f7a4_77 ?_
            have hw : J_nlz32 i = (17 - (jiushr (jiushr (jiushr (jiushr i 8) 4) 2) 1)) := by unfold J_nlz32; rw [if_pos c_1, if_pos c_2, if_neg c_3, if_neg c_7, if_neg c_9]; try rfl
            exact W.iret hx hb hr (fun t9 ht hW => ⟨_, rfl, hw.symm, ht⟩) t_nil dJ6_numberOfLeadingZeros_0f7a4_78
    · refine lv_iinc (v := 15) (lv' := [(1, .int 15), (0, .int i)]) hx hb dJ6_numberOfLeadingZeros_0f7a4_25 hl (k := 0) rfl rfl (by decide) rfl (fun ls hl => ?_)
      refine lv_iload_n hx hb dJ6_numberOfLeadingZeros_0f7a4_28 rfl (lv_at hl 1 rfl) ?_
      refine lv_bipush (v := 16) hx hb dJ6_numberOfLeadingZeros_0f7a4_29 (by decide) ?_
      refine lv_iushr (v := (jiushr i 16)) hx hb dJ6_numberOfLeadingZeros_0f7a4_31 rfl ?_
      refine lv_istore_n (lv' := [(0, .int (jiushr i 16)), (1, .int 15)]) hx hb dJ6_numberOfLeadingZeros_0f7a4_32 rfl hl (by decide) rfl (fun ls hl => ?_)
      refine lv_iload_n hx hb dJ6_numberOfLeadingZeros_0f7a4_33 rfl (lv_at hl 0 rfl) ?_
      refine lv_sipush (v := 256) hx hb dJ6_numberOfLeadingZeros_0f7a4_34 (by decide) ?_
      refine lv_icmp_lt (tgt := 48) hx hb dJ6_numberOfLeadingZeros_0f7a4_37 (by decide) (fun c_10 => ?_) (fun c_10 => ?_)
      · refine lv_iload_n hx hb dJ6_numberOfLeadingZeros_0f7a4_48 rfl (lv_at hl 0 rfl) ?_
        refine lv_bipush (v := 16) hx hb dJ6_numberOfLeadingZeros_0f7a4_49 (by decide) ?_
        refine lv_icmp_lt (tgt := 61) hx hb dJ6_numberOfLeadingZeros_0f7a4_51 (by decide) (fun c_11 => ?_) (fun c_11 => ?_)
        · refine lv_iload_n hx hb dJ6_numberOfLeadingZeros_0f7a4_61 rfl (lv_at hl 0 rfl) ?_
          refine lv_iconst (v := 4) hx hb dJ6_numberOfLeadingZeros_0f7a4_62 (by decide) ?_
          refine lv_icmp_lt (tgt := 73) hx hb dJ6_numberOfLeadingZeros_0f7a4_63 (by decide) (fun c_12 => ?_) (fun c_12 => ?_)
          · refine lv_iload_n hx hb dJ6_numberOfLeadingZeros_0f7a4_73 rfl (lv_at hl 1 rfl) ?_
            refine lv_iload_n hx hb dJ6_numberOfLeadingZeros_0f7a4_74 rfl (lv_at hl 0 rfl) ?_
            refine lv_iconst (v := 1) hx hb dJ6_numberOfLeadingZeros_0f7a4_75 (by decide) ?_
            refine lv_iushr (v := (jiushr (jiushr i 16) 1)) hx hb dJ6_numberOfLeadingZeros_0f7a4_76 rfl ?_
            refine lv_isub hx hb dJ6_numberOfLeadingZeros_0f7a4_77 ?_
            have hw : J_nlz32 i = (15 - (jiushr (jiushr i 16) 1)) := by unfold J_nlz32; rw [if_pos c_1, if_neg c_2, if_pos c_10, if_pos c_11, if_pos c_12]; try rfl
            exact W.iret hx hb hr (fun t9 ht hW => ⟨_, rfl, hw.symm, ht⟩) t_nil dJ6_numberOfLeadingZeros_0f7a4_78
          · refine lv_iinc (v := 13) (lv' := [(1, .int 13), (0, .int (jiushr i 16))]) hx hb dJ6_numberOfLeadingZeros_0f7a4_66 hl (k := 1) rfl rfl (by decide) rfl (fun ls hl => ?_)
            refine lv_iload_n hx hb dJ6_numberOfLeadingZeros_0f7a4_69 rfl (lv_at hl 1 rfl) ?_
            refine lv_iconst (v := 2) hx hb dJ6_numberOfLeadingZeros_0f7a4_70 (by decide) ?_
            refine lv_iushr (v := (jiushr (jiushr i 16) 2)) hx hb dJ6_numberOfLeadingZeros_0f7a4_71 rfl ?_
            refine lv_istore_n (lv' := [(0, .int (jiushr (jiushr i 16) 2)), (1, .int 13)]) hx hb dJ6_numberOfLeadingZeros_0f7a4_72 rfl hl (by decide) rfl (fun ls hl => ?_)
            refine lv_iload_n hx hb dJ6_numberOfLeadingZeros_0f7a4_73 rfl (lv_at hl 1 rfl) ?_
            refine lv_iload_n hx hb dJ6_numberOfLeadingZeros_0f7a4_74 rfl (lv_at hl 0 rfl) ?_
            refine lv_iconst (v := 1) hx hb dJ6_numberOfLeadingZeros_0f7a4_75 (by decide) ?_
            refine lv_iushr (v := (jiushr (jiushr (jiushr i 16) 2) 1)) hx hb dJ6_numberOfLeadingZeros_0f7a4_76 rfl ?_
            refine lv_isub hx hb dJ6_numberOfLeadingZeros_0f7a4_77 ?_
            have hw : J_nlz32 i = (13 - (jiushr (jiushr (jiushr i 16) 2) 1)) := by unfold J_nlz32; rw [if_pos c_1, if_neg c_2, if_pos c_10, if_pos c_11, if_neg c_12]; try rfl
            exact W.iret hx hb hr (fun t9 ht hW => ⟨_, rfl, hw.symm, ht⟩) t_nil dJ6_numberOfLeadingZeros_0f7a4_78
        · refine lv_iinc (v := 11) (lv' := [(1, .int 11), (0, .int (jiushr i 16))]) hx hb dJ6_numberOfLeadingZeros_0f7a4_54 hl (k := 1) rfl rfl (by decide) rfl (fun ls hl => ?_)
          refine lv_iload_n hx hb dJ6_numberOfLeadingZeros_0f7a4_57 rfl (lv_at hl 1 rfl) ?_
          refine lv_iconst (v := 4) hx hb dJ6_numberOfLeadingZeros_0f7a4_58 (by decide) ?_
          refine lv_iushr (v := (jiushr (jiushr i 16) 4)) hx hb dJ6_numberOfLeadingZeros_0f7a4_59 rfl ?_
          refine lv_istore_n (lv' := [(0, .int (jiushr (jiushr i 16) 4)), (1, .int 11)]) hx hb dJ6_numberOfLeadingZeros_0f7a4_60 rfl hl (by decide) rfl (fun ls hl => ?_)
          refine lv_iload_n hx hb dJ6_numberOfLeadingZeros_0f7a4_61 rfl (lv_at hl 0 rfl) ?_
          refine lv_iconst (v := 4) hx hb dJ6_numberOfLeadingZeros_0f7a4_62 (by decide) ?_
          refine lv_icmp_lt (tgt := 73) hx hb dJ6_numberOfLeadingZeros_0f7a4_63 (by decide) (fun c_13 => ?_) (fun c_13 => ?_)
          · refine lv_iload_n hx hb dJ6_numberOfLeadingZeros_0f7a4_73 rfl (lv_at hl 1 rfl) ?_
            refine lv_iload_n hx hb dJ6_numberOfLeadingZeros_0f7a4_74 rfl (lv_at hl 0 rfl) ?_
            refine lv_iconst (v := 1) hx hb dJ6_numberOfLeadingZeros_0f7a4_75 (by decide) ?_
            refine lv_iushr (v := (jiushr (jiushr (jiushr i 16) 4) 1)) hx hb dJ6_numberOfLeadingZeros_0f7a4_76 rfl ?_
            refine lv_isub hx hb dJ6_numberOfLeadingZeros_0f7a4_77 ?_
            have hw : J_nlz32 i = (11 - (jiushr (jiushr (jiushr i 16) 4) 1)) := by unfold J_nlz32; rw [if_pos c_1, if_neg c_2, if_pos c_10, if_neg c_11, if_pos c_13]; try rfl
            exact W.iret hx hb hr (fun t9 ht hW => ⟨_, rfl, hw.symm, ht⟩) t_nil dJ6_numberOfLeadingZeros_0f7a4_78
          · refine lv_iinc (v := 9) (lv' := [(1, .int 9), (0, .int (jiushr (jiushr i 16) 4))]) hx hb dJ6_numberOfLeadingZeros_0f7a4_66 hl (k := 1) rfl rfl (by decide) rfl (fun ls hl => ?_)
            refine lv_iload_n hx hb dJ6_numberOfLeadingZeros_0f7a4_69 rfl (lv_at hl 1 rfl) ?_
            refine lv_iconst (v := 2) hx hb dJ6_numberOfLeadingZeros_0f7a4_70 (by decide) ?_
            refine lv_iushr (v := (jiushr (jiushr (jiushr i 16) 4) 2)) hx hb dJ6_numberOfLeadingZeros_0f7a4_71 rfl ?_
            refine lv_istore_n (lv' := [(0, .int (jiushr (jiushr (jiushr i 16) 4) 2)), (1, .int 9)]) hx hb dJ6_numberOfLeadingZeros_0f7a4_72 rfl hl (by decide) rfl (fun ls hl => ?_)
            refine lv_iload_n hx hb dJ6_numberOfLeadingZeros_0f7a4_73 rfl (lv_at hl 1 rfl) ?_
            refine lv_iload_n hx hb dJ6_numberOfLeadingZeros_0f7a4_74 rfl (lv_at hl 0 rfl) ?_
            refine lv_iconst (v := 1) hx hb dJ6_numberOfLeadingZeros_0f7a4_75 (by decide) ?_
            refine lv_iushr (v := (jiushr (jiushr (jiushr (jiushr i 16) 4) 2) 1)) hx hb dJ6_numberOfLeadingZeros_0f7a4_76 rfl ?_
            refine lv_isub hx hb dJ6_numberOfLeadingZeros_0f7a4_77 ?_
            have hw : J_nlz32 i = (9 - (jiushr (jiushr (jiushr (jiushr i 16) 4) 2) 1)) := by unfold J_nlz32; rw [if_pos c_1, if_neg c_2, if_pos c_10, if_neg c_11, if_neg c_13]; try rfl
            exact W.iret hx hb hr (fun t9 ht hW => ⟨_, rfl, hw.symm, ht⟩) t_nil dJ6_numberOfLeadingZeros_0f7a4_78
      · refine lv_iinc (v := 7) (lv' := [(1, .int 7), (0, .int (jiushr i 16))]) hx hb dJ6_numberOfLeadingZeros_0f7a4_40 hl (k := 1) rfl rfl (by decide) rfl (fun ls hl => ?_)
        refine lv_iload_n hx hb dJ6_numberOfLeadingZeros_0f7a4_43 rfl (lv_at hl 1 rfl) ?_
        refine lv_bipush (v := 8) hx hb dJ6_numberOfLeadingZeros_0f7a4_44 (by decide) ?_
        refine lv_iushr (v := (jiushr (jiushr i 16) 8)) hx hb dJ6_numberOfLeadingZeros_0f7a4_46 rfl ?_
        refine lv_istore_n (lv' := [(0, .int (jiushr (jiushr i 16) 8)), (1, .int 7)]) hx hb dJ6_numberOfLeadingZeros_0f7a4_47 rfl hl (by decide) rfl (fun ls hl => ?_)
        refine lv_iload_n hx hb dJ6_numberOfLeadingZeros_0f7a4_48 rfl (lv_at hl 0 rfl) ?_
        refine lv_bipush (v := 16) hx hb dJ6_numberOfLeadingZeros_0f7a4_49 (by decide) ?_
        refine lv_icmp_lt (tgt := 61) hx hb dJ6_numberOfLeadingZeros_0f7a4_51 (by decide) (fun c_14 => ?_) (fun c_14 => ?_)
        · refine lv_iload_n hx hb dJ6_numberOfLeadingZeros_0f7a4_61 rfl (lv_at hl 0 rfl) ?_
          refine lv_iconst (v := 4) hx hb dJ6_numberOfLeadingZeros_0f7a4_62 (by decide) ?_
          refine lv_icmp_lt (tgt := 73) hx hb dJ6_numberOfLeadingZeros_0f7a4_63 (by decide) (fun c_15 => ?_) (fun c_15 => ?_)
          · refine lv_iload_n hx hb dJ6_numberOfLeadingZeros_0f7a4_73 rfl (lv_at hl 1 rfl) ?_
            refine lv_iload_n hx hb dJ6_numberOfLeadingZeros_0f7a4_74 rfl (lv_at hl 0 rfl) ?_
            refine lv_iconst (v := 1) hx hb dJ6_numberOfLeadingZeros_0f7a4_75 (by decide) ?_
            refine lv_iushr (v := (jiushr (jiushr (jiushr i 16) 8) 1)) hx hb dJ6_numberOfLeadingZeros_0f7a4_76 rfl ?_
            refine lv_isub hx hb dJ6_numberOfLeadingZeros_0f7a4_77 ?_
            have hw : J_nlz32 i = (7 - (jiushr (jiushr (jiushr i 16) 8) 1)) := by unfold J_nlz32; rw [if_pos c_1, if_neg c_2, if_neg c_10, if_pos c_14, if_pos c_15]; try rfl
            exact W.iret hx hb hr (fun t9 ht hW => ⟨_, rfl, hw.symm, ht⟩) t_nil dJ6_numberOfLeadingZeros_0f7a4_78
          · refine lv_iinc (v := 5) (lv' := [(1, .int 5), (0, .int (jiushr (jiushr i 16) 8))]) hx hb dJ6_numberOfLeadingZeros_0f7a4_66 hl (k := 1) rfl rfl (by decide) rfl (fun ls hl => ?_)
            refine lv_iload_n hx hb dJ6_numberOfLeadingZeros_0f7a4_69 rfl (lv_at hl 1 rfl) ?_
            refine lv_iconst (v := 2) hx hb dJ6_numberOfLeadingZeros_0f7a4_70 (by decide) ?_
            refine lv_iushr (v := (jiushr (jiushr (jiushr i 16) 8) 2)) hx hb dJ6_numberOfLeadingZeros_0f7a4_71 rfl ?_
            refine lv_istore_n (lv' := [(0, .int (jiushr (jiushr (jiushr i 16) 8) 2)), (1, .int 5)]) hx hb dJ6_numberOfLeadingZeros_0f7a4_72 rfl hl (by decide) rfl (fun ls hl => ?_)
            refine lv_iload_n hx hb dJ6_numberOfLeadingZeros_0f7a4_73 rfl (lv_at hl 1 rfl) ?_
            refine lv_iload_n hx hb dJ6_numberOfLeadingZeros_0f7a4_74 rfl (lv_at hl 0 rfl) ?_
            refine lv_iconst (v := 1) hx hb dJ6_numberOfLeadingZeros_0f7a4_75 (by decide) ?_
            refine lv_iushr (v := (jiushr (jiushr (jiushr (jiushr i 16) 8) 2) 1)) hx hb dJ6_numberOfLeadingZeros_0f7a4_76 rfl ?_
            refine lv_isub hx hb dJ6_numberOfLeadingZeros_0f7a4_77 ?_
            have hw : J_nlz32 i = (5 - (jiushr (jiushr (jiushr (jiushr i 16) 8) 2) 1)) := by unfold J_nlz32; rw [if_pos c_1, if_neg c_2, if_neg c_10, if_pos c_14, if_neg c_15]; try rfl
            exact W.iret hx hb hr (fun t9 ht hW => ⟨_, rfl, hw.symm, ht⟩) t_nil dJ6_numberOfLeadingZeros_0f7a4_78
        · refine lv_iinc (v := 3) (lv' := [(1, .int 3), (0, .int (jiushr (jiushr i 16) 8))]) hx hb dJ6_numberOfLeadingZeros_0f7a4_54 hl (k := 1) rfl rfl (by decide) rfl (fun ls hl => ?_)
          refine lv_iload_n hx hb dJ6_numberOfLeadingZeros_0f7a4_57 rfl (lv_at hl 1 rfl) ?_
          refine lv_iconst (v := 4) hx hb dJ6_numberOfLeadingZeros_0f7a4_58 (by decide) ?_
          refine lv_iushr (v := (jiushr (jiushr (jiushr i 16) 8) 4)) hx hb dJ6_numberOfLeadingZeros_0f7a4_59 rfl ?_
          refine lv_istore_n (lv' := [(0, .int (jiushr (jiushr (jiushr i 16) 8) 4)), (1, .int 3)]) hx hb dJ6_numberOfLeadingZeros_0f7a4_60 rfl hl (by decide) rfl (fun ls hl => ?_)
          refine lv_iload_n hx hb dJ6_numberOfLeadingZeros_0f7a4_61 rfl (lv_at hl 0 rfl) ?_
          refine lv_iconst (v := 4) hx hb dJ6_numberOfLeadingZeros_0f7a4_62 (by decide) ?_
          refine lv_icmp_lt (tgt := 73) hx hb dJ6_numberOfLeadingZeros_0f7a4_63 (by decide) (fun c_16 => ?_) (fun c_16 => ?_)
          · refine lv_iload_n hx hb dJ6_numberOfLeadingZeros_0f7a4_73 rfl (lv_at hl 1 rfl) ?_
            refine lv_iload_n hx hb dJ6_numberOfLeadingZeros_0f7a4_74 rfl (lv_at hl 0 rfl) ?_
            refine lv_iconst (v := 1) hx hb dJ6_numberOfLeadingZeros_0f7a4_75 (by decide) ?_
            refine lv_iushr (v := (jiushr (jiushr (jiushr (jiushr i 16) 8) 4) 1)) hx hb dJ6_numberOfLeadingZeros_0f7a4_76 rfl ?_
            refine lv_isub hx hb dJ6_numberOfLeadingZeros_0f7a4_77 ?_
            have hw : J_nlz32 i = (3 - (jiushr (jiushr (jiushr (jiushr i 16) 8) 4) 1)) := by unfold J_nlz32; rw [if_pos c_1, if_neg c_2, if_neg c_10, if_neg c_14, if_pos c_16]; try rfl
            exact W.iret hx hb hr (fun t9 ht hW => ⟨_, rfl, hw.symm, ht⟩) t_nil dJ6_numberOfLeadingZeros_0f7a4_78
          · refine lv_iinc (v := 1) (lv' := [(1, .int 1), (0, .int (jiushr (jiushr (jiushr i 16) 8) 4))]) hx hb dJ6_numberOfLeadingZeros_0f7a4_66 hl (k := 1) rfl rfl (by decide) rfl (fun ls hl => ?_)
            refine lv_iload_n hx hb dJ6_numberOfLeadingZeros_0f7a4_69 rfl (lv_at hl 1 rfl) ?_
            refine lv_iconst (v := 2) hx hb dJ6_numberOfLeadingZeros_0f7a4_70 (by decide) ?_
            refine lv_iushr (v := (jiushr (jiushr (jiushr (jiushr i 16) 8) 4) 2)) hx hb dJ6_numberOfLeadingZeros_0f7a4_71 rfl ?_
            refine lv_istore_n (lv' := [(0, .int (jiushr (jiushr (jiushr (jiushr i 16) 8) 4) 2)), (1, .int 1)]) hx hb dJ6_numberOfLeadingZeros_0f7a4_72 rfl hl (by decide) rfl (fun ls hl => ?_)
            refine lv_iload_n hx hb dJ6_numberOfLeadingZeros_0f7a4_73 rfl (lv_at hl 1 rfl) ?_
            refine lv_iload_n hx hb dJ6_numberOfLeadingZeros_0f7a4_74 rfl (lv_at hl 0 rfl) ?_
            refine lv_iconst (v := 1) hx hb dJ6_numberOfLeadingZeros_0f7a4_75 (by decide) ?_
            refine lv_iushr (v := (jiushr (jiushr (jiushr (jiushr (jiushr i 16) 8) 4) 2) 1)) hx hb dJ6_numberOfLeadingZeros_0f7a4_76 rfl ?_
            refine lv_isub hx hb dJ6_numberOfLeadingZeros_0f7a4_77 ?_
            have hw : J_nlz32 i = (1 - (jiushr (jiushr (jiushr (jiushr (jiushr i 16) 8) 4) 2) 1)) := by unfold J_nlz32; rw [if_pos c_1, if_neg c_2, if_neg c_10, if_neg c_14, if_neg c_16]; try rfl
            exact W.iret hx hb hr (fun t9 ht hW => ⟨_, rfl, hw.symm, ht⟩) t_nil dJ6_numberOfLeadingZeros_0f7a4_78
  · refine lv_iload_n hx hb dJ6_numberOfLeadingZeros_0f7a4_4 rfl (lv_at hl 0 rfl) ?_
    refine q_cut (v := (if i = 0 then (32 : Int32) else (0 : Int32))) (pcJ := 14) (rest := []) (fun J => ?_) ?_
    · refine lv_if_ne (tgt := 13) hx hb dJ6_numberOfLeadingZeros_0f7a4_5 (by decide) (fun c_17 => ?_) (fun c_17 => ?_)
      · refine lv_iconst (v := 0) hx hb dJ6_numberOfLeadingZeros_0f7a4_13 (by decide) ?_
        exact J _ (by rw [if_neg c_17]; try rfl)
      · refine lv_bipush (v := 32) hx hb dJ6_numberOfLeadingZeros_0f7a4_8 (by decide) ?_
        refine lv_goto (tgt := 14) hx hb dJ6_numberOfLeadingZeros_0f7a4_10 (by decide) ?_
        exact J _ (by rw [if_pos c_17]; try rfl)
    have hw : J_nlz32 i = (if i = 0 then (32 : Int32) else (0 : Int32)) := by unfold J_nlz32; rw [if_neg c_1]; try rfl
    exact W.iret hx hb hr (fun t9 ht hW => ⟨_, rfl, hw.symm, ht⟩) t_nil dJ6_numberOfLeadingZeros_0f7a4_14
def J_nlz64 (i : Int64) : Int32 :=
  (if ((jlushr i 32)).toInt32 = 0 then (32 + (J_nlz32 ((i).toInt32))) else (J_nlz32 (((jlushr i 32)).toInt32)))
theorem kS_J13_numberOfLeadingZeros_95d88 : yJ13_numberOfLeadingZeros_95d88.cls ≠ "java/lang/invoke/MethodHandle" ∧ yJ13_numberOfLeadingZeros_95d88.cls ≠ "java/lang/invoke/VarHandle" ∧ (parseMethodDescriptor yJ13_numberOfLeadingZeros_95d88.desc).map (fun d => d.parameters.length) = some 1 := by decide +kernel
set_option maxHeartbeats 4000000 in
set_option maxRecDepth 100000 in
theorem c_J13_numberOfLeadingZeros_95d88 (l : Launch) (i : Int64) : Met l yJ13_numberOfLeadingZeros_95d88 wsJ13_numberOfLeadingZeros_95d88 ({ frames := 1, cells := 0, slots := 0, locals := 21 } : Room) (va_Pc [.long i] (fun _ => True)) (vp_Si (fun r => r = J_nlz64 i)) 0 0 (fun _ => False) := by
  refine Met.ofW (cc := cJ13_numberOfLeadingZeros_95d88) (maxL := 3) (ret := (some .int)) (by decide) rfl ?_
  intro p e s m args below meth c s₁ B hml hv
  obtain ⟨rfl, -⟩ := hv
  have hx := B.exec
  have hb := B.bytes
  have hr := B.returns
  have hts := atoms_spec (ws := wsJ13_numberOfLeadingZeros_95d88) B.pre
  have hown : s.vm.findClass RJ13 = some m.cls := findClass_of_methodNamed B.named
  have hlocks := B.notSynchronized
  have hl := lv_entry ([.long i]) (n := 3) (Nat.le_of_ble_eq_true rfl)
  rw [lg_entry_eq]
  generalize (lg_sl ([.long i]) ++ List.replicate (3 - (lg_sl ([.long i])).length) Slot.unset).toArray = ls at hl ⊢
  have hl : lv_has ls 3 [(0, .long i)] := hl
  refine lv_lload_n hx hb dJ13_numberOfLeadingZeros_95d88_0 rfl (lv_at hl 0 rfl) ?_
  refine lv_bipush (v := 32) hx hb dJ13_numberOfLeadingZeros_95d88_1 (by decide) ?_
  refine lv_lushr (v := (jlushr i 32)) hx hb dJ13_numberOfLeadingZeros_95d88_3 rfl ?_
  refine lv_l2i (v := ((jlushr i 32)).toInt32) hx hb dJ13_numberOfLeadingZeros_95d88_4 rfl ?_
  refine lv_istore_n (lv' := [(2, .int (((jlushr i 32)).toInt32)), (0, .long i)]) hx hb dJ13_numberOfLeadingZeros_95d88_5 rfl hl (by decide) rfl (fun ls hl => ?_)
  refine lv_iload_n hx hb dJ13_numberOfLeadingZeros_95d88_6 rfl (lv_at hl 0 rfl) ?_
  refine q_cut (v := (if ((jlushr i 32)).toInt32 = 0 then (32 + (J_nlz32 ((i).toInt32))) else (J_nlz32 (((jlushr i 32)).toInt32)))) (pcJ := 25) (rest := []) (fun J => ?_) ?_
  · refine lv_if_ne (tgt := 21) hx hb dJ13_numberOfLeadingZeros_95d88_7 (by decide) (fun c_1 => ?_) (fun c_1 => ?_)
    · refine lv_iload_n hx hb dJ13_numberOfLeadingZeros_95d88_21 rfl (lv_at hl 0 rfl) ?_
      refine vp_callSi (va_cr (va_runS (As := [.int (((jlushr i 32)).toInt32)]) (rest := []) ⟨hx, hb, hml, hown, hts⟩ (c_J6_numberOfLeadingZeros_0f7a4 l (((jlushr i 32)).toInt32)) (va_cwS 1 hts gJ13_numberOfLeadingZeros_95d88_J6_numberOfLeadingZeros_0f7a4 rfl rfl rfl kS_J6_numberOfLeadingZeros_0f7a4 ⟨Nat.le_of_ble_eq_true rfl, Nat.le_of_ble_eq_true rfl⟩) ⟨TB.blind, TB.pre⟩ rfl rfl hl.1 rfl (lv_room (Nat.le_of_ble_eq_true rfl)) dJ13_numberOfLeadingZeros_95d88_22 ⟨Nat.le_of_ble_eq_true rfl, Nat.le_of_ble_eq_true rfl⟩)) (fun r9 e9 => ?_)
      rw [e9]
      exact J _ (by rw [if_neg c_1]; try rfl)
    · refine lv_bipush (v := 32) hx hb dJ13_numberOfLeadingZeros_95d88_10 (by decide) ?_
      refine lv_lload_n hx hb dJ13_numberOfLeadingZeros_95d88_12 rfl (lv_at hl 1 rfl) ?_
      refine lv_l2i (v := (i).toInt32) hx hb dJ13_numberOfLeadingZeros_95d88_13 rfl ?_
      refine vp_callSi (va_cr (va_runS (As := [.int ((i).toInt32)]) (rest := [.int 32]) ⟨hx, hb, hml, hown, hts⟩ (c_J6_numberOfLeadingZeros_0f7a4 l ((i).toInt32)) (va_cwS 1 hts gJ13_numberOfLeadingZeros_95d88_J6_numberOfLeadingZeros_0f7a4 rfl rfl rfl kS_J6_numberOfLeadingZeros_0f7a4 ⟨Nat.le_of_ble_eq_true rfl, Nat.le_of_ble_eq_true rfl⟩) ⟨TB.blind, TB.pre⟩ rfl rfl hl.1 rfl (lv_room (Nat.le_of_ble_eq_true rfl)) dJ13_numberOfLeadingZeros_95d88_14 ⟨Nat.le_of_ble_eq_true rfl, Nat.le_of_ble_eq_true rfl⟩)) (fun r9 e9 => ?_)
      rw [e9]
      refine lv_iadd hx hb dJ13_numberOfLeadingZeros_95d88_17 ?_
      refine lv_goto (tgt := 25) hx hb dJ13_numberOfLeadingZeros_95d88_18 (by decide) ?_
      exact J _ (by rw [if_pos c_1]; try rfl)
  have hw : J_nlz64 i = (if ((jlushr i 32)).toInt32 = 0 then (32 + (J_nlz32 ((i).toInt32))) else (J_nlz32 (((jlushr i 32)).toInt32))) := rfl
  exact W.iret hx hb hr (fun t9 ht hW => ⟨_, rfl, hw.symm, ht⟩) t_nil dJ13_numberOfLeadingZeros_95d88_25
def J_cmp (i : Int64) (j : Int64) : Int32 :=
  (if i < j then (-1 : Int32) else (if i = j then (0 : Int32) else (1 : Int32)))
theorem kS_J13_compare_74951 : yJ13_compare_74951.cls ≠ "java/lang/invoke/MethodHandle" ∧ yJ13_compare_74951.cls ≠ "java/lang/invoke/VarHandle" ∧ (parseMethodDescriptor yJ13_compare_74951.desc).map (fun d => d.parameters.length) = some 2 := by decide +kernel
set_option maxHeartbeats 4000000 in
set_option maxRecDepth 100000 in
theorem c_J13_compare_74951 (l : Launch) (i : Int64) (j : Int64) : Met l yJ13_compare_74951 wsJ13_compare_74951 ({ frames := 0, cells := 0, slots := 0, locals := 0 } : Room) (va_Pc [.long i, .long j] (fun _ => True)) (vp_Si (fun r => r = J_cmp i j)) 0 0 (fun _ => False) := by
  refine Met.ofW (cc := cJ13_compare_74951) (maxL := 4) (ret := (some .int)) (by decide) rfl ?_
  intro p e s m args below meth c s₁ B hml hv
  obtain ⟨rfl, -⟩ := hv
  have hx := B.exec
  have hb := B.bytes
  have hr := B.returns
  have hts := atoms_spec (ws := wsJ13_compare_74951) B.pre
  have hown : s.vm.findClass RJ13 = some m.cls := findClass_of_methodNamed B.named
  have hlocks := B.notSynchronized
  have hl := lv_entry ([.long i, .long j]) (n := 4) (Nat.le_of_ble_eq_true rfl)
  rw [lg_entry_eq]
  generalize (lg_sl ([.long i, .long j]) ++ List.replicate (4 - (lg_sl ([.long i, .long j])).length) Slot.unset).toArray = ls at hl ⊢
  have hl : lv_has ls 4 [(0, .long i), (2, .long j)] := hl
  refine lv_lload_n hx hb dJ13_compare_74951_0 rfl (lv_at hl 0 rfl) ?_
  refine lv_lload_n hx hb dJ13_compare_74951_1 rfl (lv_at hl 1 rfl) ?_
  refine q_cut (v := (if i < j then (-1 : Int32) else (if i = j then (0 : Int32) else (1 : Int32)))) (pcJ := 21) (rest := []) (fun J => ?_) ?_
  · refine q_cl_ge (tgt := 10) hx hb dJ13_compare_74951_2 dJ13_compare_74951_3 (by decide) (fun c_1 => ?_) (fun c_1 => ?_)
    · refine lv_lload_n hx hb dJ13_compare_74951_10 rfl (lv_at hl 0 rfl) ?_
      refine lv_lload_n hx hb dJ13_compare_74951_11 rfl (lv_at hl 1 rfl) ?_
      refine q_cl_ne (tgt := 20) hx hb dJ13_compare_74951_12 dJ13_compare_74951_13 (by decide) (fun c_2 => ?_) (fun c_2 => ?_)
      · refine lv_iconst (v := 1) hx hb dJ13_compare_74951_20 (by decide) ?_
        exact J _ (by rw [if_neg c_1, if_neg c_2]; try rfl)
      · refine lv_iconst (v := 0) hx hb dJ13_compare_74951_16 (by decide) ?_
        refine lv_goto (tgt := 21) hx hb dJ13_compare_74951_17 (by decide) ?_
        exact J _ (by rw [if_neg c_1, if_pos c_2]; try rfl)
    · refine lv_iconst (v := (-1)) hx hb dJ13_compare_74951_6 (by decide) ?_
      refine lv_goto (tgt := 21) hx hb dJ13_compare_74951_7 (by decide) ?_
      exact J _ (by rw [if_pos c_1]; try rfl)
  have hw : J_cmp i j = (if i < j then (-1 : Int32) else (if i = j then (0 : Int32) else (1 : Int32))) := rfl
  exact W.iret hx hb hr (fun t9 ht hW => ⟨_, rfl, hw.symm, ht⟩) t_nil dJ13_compare_74951_21
def J_cmpU (i : Int64) (j : Int64) : Int32 :=
  (J_cmp (i + (-9223372036854775808)) (j + (-9223372036854775808)))
theorem kS_J13_compareUnsigned_74951 : yJ13_compareUnsigned_74951.cls ≠ "java/lang/invoke/MethodHandle" ∧ yJ13_compareUnsigned_74951.cls ≠ "java/lang/invoke/VarHandle" ∧ (parseMethodDescriptor yJ13_compareUnsigned_74951.desc).map (fun d => d.parameters.length) = some 2 := by decide +kernel
set_option maxHeartbeats 4000000 in
set_option maxRecDepth 100000 in
theorem c_J13_compareUnsigned_74951 (l : Launch) (i : Int64) (j : Int64) : Met l yJ13_compareUnsigned_74951 wsJ13_compareUnsigned_74951 ({ frames := 1, cells := 0, slots := 0, locals := 23 } : Room) (va_Pc [.long i, .long j] (fun _ => True)) (vp_Si (fun r => r = J_cmpU i j)) 0 0 (fun _ => False) := by
  refine Met.ofW (cc := cJ13_compareUnsigned_74951) (maxL := 4) (ret := (some .int)) (by decide) rfl ?_
  intro p e s m args below meth c s₁ B hml hv
  obtain ⟨rfl, -⟩ := hv
  have hx := B.exec
  have hb := B.bytes
  have hr := B.returns
  have hts := atoms_spec (ws := wsJ13_compareUnsigned_74951) B.pre
  have hown : s.vm.findClass RJ13 = some m.cls := findClass_of_methodNamed B.named
  have hlocks := B.notSynchronized
  have w_1 := hts (.constantLong RJ13 168 (-9223372036854775808)) (by decide +kernel)
  have hl := lv_entry ([.long i, .long j]) (n := 4) (Nat.le_of_ble_eq_true rfl)
  rw [lg_entry_eq]
  generalize (lg_sl ([.long i, .long j]) ++ List.replicate (4 - (lg_sl ([.long i, .long j])).length) Slot.unset).toArray = ls at hl ⊢
  have hl : lv_has ls 4 [(0, .long i), (2, .long j)] := hl
  refine lv_lload_n hx hb dJ13_compareUnsigned_74951_0 rfl (lv_at hl 0 rfl) ?_
  refine lv_ldc2 (v := (-9223372036854775808)) hx hb hown w_1 dJ13_compareUnsigned_74951_1 ?_
  refine lv_ladd hx hb dJ13_compareUnsigned_74951_4 ?_
  refine lv_lload_n hx hb dJ13_compareUnsigned_74951_5 rfl (lv_at hl 1 rfl) ?_
  refine lv_ldc2 (v := (-9223372036854775808)) hx hb hown w_1 dJ13_compareUnsigned_74951_6 ?_
  refine lv_ladd hx hb dJ13_compareUnsigned_74951_9 ?_
  refine vp_callSi (va_cr (va_runS (As := [.long (i + (-9223372036854775808)), .long (j + (-9223372036854775808))]) (rest := []) ⟨hx, hb, hml, hown, hts⟩ (c_J13_compare_74951 l (i + (-9223372036854775808)) (j + (-9223372036854775808))) (va_cwS 2 hts gJ13_compareUnsigned_74951_J13_compare_74951 rfl rfl rfl kS_J13_compare_74951 ⟨Nat.le_of_ble_eq_true rfl, Nat.le_of_ble_eq_true rfl⟩) ⟨TB.blind, TB.pre⟩ rfl rfl hl.1 rfl (lv_room (Nat.le_of_ble_eq_true rfl)) dJ13_compareUnsigned_74951_10 ⟨Nat.le_of_ble_eq_true rfl, Nat.le_of_ble_eq_true rfl⟩)) (fun r9 e9 => ?_)
  rw [e9]
  have hw : J_cmpU i j = (J_cmp (i + (-9223372036854775808)) (j + (-9223372036854775808))) := rfl
  exact W.iret hx hb hr (fun t9 ht hW => ⟨_, rfl, hw.symm, ht⟩) t_nil dJ13_compareUnsigned_74951_13
def R_neg (t : Int32) : Bool :=
  (if (t &&& 32768) = 0 then false else true)
theorem kS_X1_isNegative : yX1_isNegative.cls ≠ "java/lang/invoke/MethodHandle" ∧ yX1_isNegative.cls ≠ "java/lang/invoke/VarHandle" ∧ (parseMethodDescriptor yX1_isNegative.desc).map (fun d => d.parameters.length) = some 0 := by decide +kernel
theorem kV_X1_isNegative : yX1_isNegative.cls = RX1 ∧ yX1_isNegative.cls ≠ "java/lang/invoke/MethodHandle" ∧ yX1_isNegative.cls ≠ "java/lang/invoke/VarHandle" ∧ (parseMethodDescriptor yX1_isNegative.desc).map (fun d => d.parameters.length) = some 0 := ⟨rfl, kS_X1_isNegative⟩
set_option maxHeartbeats 4000000 in
set_option maxRecDepth 100000 in
theorem c_X1_isNegative (l : Launch) (D : va_G) (ad : Nat → Nat) (x : Nat) (t : Int32) (f : Int64) : Met l yX1_isNegative wsX1_isNegative ({ frames := 0, cells := 0, slots := 0, locals := 0 } : Room) (va_Pc [.ref x] (EB D [] ad [cReal x t f])) (vp_Si (fun r => r = bI (R_neg t))) 0 0 (fun _ => False) := by
  refine Met.ofW (cc := cX1_isNegative) (maxL := 1) (ret := (some .boolean)) (by decide) rfl ?_
  intro p e s m args below meth c s₁ B hml hv
  obtain ⟨rfl, hP, hK, hE⟩ := hv
  have hx := B.exec
  have hb := B.bytes
  have hr := B.returns
  have hts := atoms_spec (ws := wsX1_isNegative) B.pre
  have hown : s.vm.findClass RX1 = some m.cls := findClass_of_methodNamed B.named
  have hlocks := B.notSynchronized
  have w_1 := hts (.fieldLink RX1 9 "RealSteps$Real" "top" "I") (by decide +kernel)
  have in_X1 : ∀ w ∈ wsX10, w ∈ wsX1_isNegative := by decide +kernel
  have w_3 := hts (.constant RX1 19 (32768)) (by decide +kernel)
  have hS : va_S (fun _ : Nat => False) s.heap s.heap [] := va_S.rf
  have hl := lv_entry ([.ref x]) (n := 1) (Nat.le_of_ble_eq_true rfl)
  rw [lg_entry_eq]
  generalize (lg_sl ([.ref x]) ++ List.replicate (1 - (lg_sl ([.ref x])).length) Slot.unset).toArray = ls at hl ⊢
  have hl : lv_has ls 1 [(0, .ref x)] := hl
  refine lv_aload_n hx hb dX1_isNegative_0 rfl (lv_at hl 0 rfl) ?_
  refine va_get (v := .int t) (C := RX1) (T := TX1) (N := 2) hx hb hts in_X1 hown hK hP 0 rfl rfl 0 (by decide) w_1 (fun _ h9 => h9) rfl dX1_isNegative_1 ?_
  refine lv_ldc (v := 32768) hx hb hown w_3 dX1_isNegative_4 ?_
  refine lv_iand hx hb dX1_isNegative_6 ?_
  refine q_cut (v := bI (if (t &&& 32768) = 0 then false else true)) (pcJ := 15) (rest := []) (fun J => ?_) ?_
  · refine lv_if_eq (tgt := 14) hx hb dX1_isNegative_7 (by decide) (fun c_1 => ?_) (fun c_1 => ?_)
    · refine lv_iconst (v := 0) hx hb dX1_isNegative_14 (by decide) ?_
      exact J _ (by rw [if_pos c_1]; try rfl)
    · refine lv_iconst (v := 1) hx hb dX1_isNegative_10 (by decide) ?_
      refine lv_goto (tgt := 15) hx hb dX1_isNegative_11 (by decide) ?_
      exact J _ (by rw [if_neg c_1]; try rfl)
  have hw : R_neg t = (if (t &&& 32768) = 0 then false else true) := rfl
  exact W.zret hx hb hr (bI_nar _) (fun t9 ht hW => ⟨_, rfl, (congrArg bI hw).symm, ht⟩) t_nil dX1_isNegative_15
def R_pow (t : Int32) : Int32 :=
  (t &&& 32767)
theorem kS_X1_power : yX1_power.cls ≠ "java/lang/invoke/MethodHandle" ∧ yX1_power.cls ≠ "java/lang/invoke/VarHandle" ∧ (parseMethodDescriptor yX1_power.desc).map (fun d => d.parameters.length) = some 0 := by decide +kernel
theorem kV_X1_power : yX1_power.cls = RX1 ∧ yX1_power.cls ≠ "java/lang/invoke/MethodHandle" ∧ yX1_power.cls ≠ "java/lang/invoke/VarHandle" ∧ (parseMethodDescriptor yX1_power.desc).map (fun d => d.parameters.length) = some 0 := ⟨rfl, kS_X1_power⟩
set_option maxHeartbeats 4000000 in
set_option maxRecDepth 100000 in
theorem c_X1_power (l : Launch) (D : va_G) (ad : Nat → Nat) (x : Nat) (t : Int32) (f : Int64) : Met l yX1_power wsX1_power ({ frames := 0, cells := 0, slots := 0, locals := 0 } : Room) (va_Pc [.ref x] (EB D [] ad [cReal x t f])) (vp_Si (fun r => r = R_pow t)) 0 0 (fun _ => False) := by
  refine Met.ofW (cc := cX1_power) (maxL := 1) (ret := (some .int)) (by decide) rfl ?_
  intro p e s m args below meth c s₁ B hml hv
  obtain ⟨rfl, hP, hK, hE⟩ := hv
  have hx := B.exec
  have hb := B.bytes
  have hr := B.returns
  have hts := atoms_spec (ws := wsX1_power) B.pre
  have hown : s.vm.findClass RX1 = some m.cls := findClass_of_methodNamed B.named
  have hlocks := B.notSynchronized
  have w_1 := hts (.fieldLink RX1 9 "RealSteps$Real" "top" "I") (by decide +kernel)
  have in_X1 : ∀ w ∈ wsX10, w ∈ wsX1_power := by decide +kernel
  have hS : va_S (fun _ : Nat => False) s.heap s.heap [] := va_S.rf
  have hl := lv_entry ([.ref x]) (n := 1) (Nat.le_of_ble_eq_true rfl)
  rw [lg_entry_eq]
  generalize (lg_sl ([.ref x]) ++ List.replicate (1 - (lg_sl ([.ref x])).length) Slot.unset).toArray = ls at hl ⊢
  have hl : lv_has ls 1 [(0, .ref x)] := hl
  refine lv_aload_n hx hb dX1_power_0 rfl (lv_at hl 0 rfl) ?_
  refine va_get (v := .int t) (C := RX1) (T := TX1) (N := 2) hx hb hts in_X1 hown hK hP 0 rfl rfl 0 (by decide) w_1 (fun _ h9 => h9) rfl dX1_power_1 ?_
  refine lv_sipush (v := 32767) hx hb dX1_power_4 (by decide) ?_
  refine lv_iand hx hb dX1_power_7 ?_
  have hw : R_pow t = (t &&& 32767) := rfl
  exact W.iret hx hb hr (fun t9 ht hW => ⟨_, rfl, hw.symm, ht⟩) t_nil dX1_power_8
def R_kind (t : Int32) (f : Int64) : Nat :=
  if (R_pow t) = 0 then (if f = 0 then 0
    else 1)
  else if (R_pow t) = 32767 then (if (jlshl f 1) = 0 then 4
    else 5)
  else if f < 0 then 3
  else 2
theorem kS_X1_kind : yX1_kind.cls ≠ "java/lang/invoke/MethodHandle" ∧ yX1_kind.cls ≠ "java/lang/invoke/VarHandle" ∧ (parseMethodDescriptor yX1_kind.desc).map (fun d => d.parameters.length) = some 0 := by decide +kernel
theorem kV_X1_kind : yX1_kind.cls = RX1 ∧ yX1_kind.cls ≠ "java/lang/invoke/MethodHandle" ∧ yX1_kind.cls ≠ "java/lang/invoke/VarHandle" ∧ (parseMethodDescriptor yX1_kind.desc).map (fun d => d.parameters.length) = some 0 := ⟨rfl, kS_X1_kind⟩
set_option maxHeartbeats 4000000 in
set_option maxRecDepth 100000 in
theorem c_X1_kind (l : Launch) (D : va_G) (ad : Nat → Nat) (x : Nat) (t : Int32) (f : Int64) : Met l yX1_kind wsX1_kind ({ frames := 1, cells := 0, slots := 0, locals := 20 } : Room) (va_Pc [.ref x] (EB D [] ad [cReal x t f])) (va_Se ad (fun r => r = some (R_kind t f))) 0 0 (fun _ => False) := by
  refine Met.ofW (cc := cX1_kind) (maxL := 2) (ret := (some (.object "RealSteps$Kind"))) (by decide) rfl ?_
  intro p e s m args below meth c s₁ B hml hv
  obtain ⟨rfl, hP, hK, hE⟩ := hv
  have hx := B.exec
  have hb := B.bytes
  have hr := B.returns
  have hts := atoms_spec (ws := wsX1_kind) B.pre
  have hown : s.vm.findClass RX1 = some m.cls := findClass_of_methodNamed B.named
  have hlocks := B.notSynchronized
  have w_1 := hts (.fieldLink RX1 15 "RealSteps$Real" "fraction" "J") (by decide +kernel)
  have in_X1 : ∀ w ∈ wsX10, w ∈ wsX1_kind := by decide +kernel
  have w_3 := hts (.fieldLink RX1 42 "RealSteps$Kind" "UNNORMAL" "LRealSteps$Kind;") (by decide +kernel)
  have w_4 := hts (.fieldLink RX1 39 "RealSteps$Kind" "NORMAL" "LRealSteps$Kind;") (by decide +kernel)
  have w_5 := hts (.fieldLink RX1 36 "RealSteps$Kind" "NO_NUMBER" "LRealSteps$Kind;") (by decide +kernel)
  have w_6 := hts (.fieldLink RX1 33 "RealSteps$Kind" "INFINITE" "LRealSteps$Kind;") (by decide +kernel)
  have w_7 := hts (.fieldLink RX1 30 "RealSteps$Kind" "DENORMAL" "LRealSteps$Kind;") (by decide +kernel)
  have w_8 := hts (.fieldLink RX1 24 "RealSteps$Kind" "ZERO" "LRealSteps$Kind;") (by decide +kernel)
  have hS : va_S (fun _ : Nat => False) s.heap s.heap [] := va_S.rf
  have hl := lv_entry ([.ref x]) (n := 2) (Nat.le_of_ble_eq_true rfl)
  rw [lg_entry_eq]
  generalize (lg_sl ([.ref x]) ++ List.replicate (2 - (lg_sl ([.ref x])).length) Slot.unset).toArray = ls at hl ⊢
  have hl : lv_has ls 2 [(0, .ref x)] := hl
  refine lv_aload_n hx hb dX1_kind_0 rfl (lv_at hl 0 rfl) ?_
  refine vp_callSi (va_cr (va_runV (As := []) (rest := []) ⟨hx, hb, hml, hown, hts⟩ (c_X1_power l D ad x t f) (cwV 0 hts gX1_kind_X1_power rfl rfl rfl kV_X1_power ⟨Nat.le_of_ble_eq_true rfl, Nat.le_of_ble_eq_true rfl⟩) ⟨EB.blind, va_recv hK hP (ci := 0) (q0 := 0) rfl rfl, EB.pre (hK.sub [] rfl) (hP.sub [0] rfl) hE hS⟩ rfl rfl hl.1 rfl (lv_room (Nat.le_of_ble_eq_true rfl)) dX1_kind_1 ⟨Nat.le_of_ble_eq_true rfl, Nat.le_of_ble_eq_true rfl⟩)) (fun r9 e9 => ?_)
  rw [e9]
  refine lv_istore_n (lv' := [(1, .int (R_pow t)), (0, .ref x)]) hx hb dX1_kind_4 rfl hl (by decide) rfl (fun ls hl => ?_)
  refine lv_iload_n hx hb dX1_kind_5 rfl (lv_at hl 0 rfl) ?_
  refine lv_if_ne (tgt := 28) hx hb dX1_kind_6 (by decide) (fun c_1 => ?_) (fun c_1 => ?_)
  · refine lv_iload_n hx hb dX1_kind_28 rfl (lv_at hl 0 rfl) ?_
    refine lv_sipush (v := 32767) hx hb dX1_kind_29 (by decide) ?_
    refine lv_icmp_ne (tgt := 56) hx hb dX1_kind_32 (by decide) (fun c_2 => ?_) (fun c_2 => ?_)
    · refine lv_aload_n hx hb dX1_kind_56 rfl (lv_at hl 1 rfl) ?_
      refine va_get (v := .long f) (C := RX1) (T := TX1) (N := 2) hx hb hts in_X1 hown hK hP 0 rfl rfl 1 (by decide) w_1 (fun _ h9 => h9) rfl dX1_kind_57 ?_
      refine lv_lconst (v := 0) hx hb dX1_kind_60 (by decide) ?_
      refine q_cl_ge (tgt := 71) hx hb dX1_kind_61 dX1_kind_62 (by decide) (fun c_3 => ?_) (fun c_3 => ?_)
      · refine va_gets (v := .ref (ad 2)) hx hb (hE.1.1 2 (by decide)).1 hS hown w_3 (fun _ h9 => h9) dX1_kind_71 ?_
        have hw : R_kind t f = 2 := by unfold R_kind; rw [if_neg c_1, if_neg c_2, if_neg c_3]; try rfl
        exact W.aret hx hb hr (Or.inl ⟨_, rfl⟩) (Or.inr ⟨_, rfl⟩) (fun t9 ht hW => ⟨some (2), rfl, (congrArg some hw).symm, ht⟩) t_nil dX1_kind_74
      · refine va_gets (v := .ref (ad 3)) hx hb (hE.1.1 3 (by decide)).1 hS hown w_4 (fun _ h9 => h9) dX1_kind_65 ?_
        refine lv_goto (tgt := 74) hx hb dX1_kind_68 (by decide) ?_
        have hw : R_kind t f = 3 := by unfold R_kind; rw [if_neg c_1, if_neg c_2, if_pos c_3]; try rfl
        exact W.aret hx hb hr (Or.inl ⟨_, rfl⟩) (Or.inr ⟨_, rfl⟩) (fun t9 ht hW => ⟨some (3), rfl, (congrArg some hw).symm, ht⟩) t_nil dX1_kind_74
    · refine lv_aload_n hx hb dX1_kind_35 rfl (lv_at hl 1 rfl) ?_
      refine va_get (v := .long f) (C := RX1) (T := TX1) (N := 2) hx hb hts in_X1 hown hK hP 0 rfl rfl 1 (by decide) w_1 (fun _ h9 => h9) rfl dX1_kind_36 ?_
      refine lv_iconst (v := 1) hx hb dX1_kind_39 (by decide) ?_
      refine lv_lshl (v := (jlshl f 1)) hx hb dX1_kind_40 rfl ?_
      refine lv_lconst (v := 0) hx hb dX1_kind_41 (by decide) ?_
      refine q_cl_ne (tgt := 52) hx hb dX1_kind_42 dX1_kind_43 (by decide) (fun c_4 => ?_) (fun c_4 => ?_)
      · refine va_gets (v := .ref (ad 5)) hx hb (hE.1.1 5 (by decide)).1 hS hown w_5 (fun _ h9 => h9) dX1_kind_52 ?_
        have hw : R_kind t f = 5 := by unfold R_kind; rw [if_neg c_1, if_pos c_2, if_neg c_4]; try rfl
        exact W.aret hx hb hr (Or.inl ⟨_, rfl⟩) (Or.inr ⟨_, rfl⟩) (fun t9 ht hW => ⟨some (5), rfl, (congrArg some hw).symm, ht⟩) t_nil dX1_kind_55
      · refine va_gets (v := .ref (ad 4)) hx hb (hE.1.1 4 (by decide)).1 hS hown w_6 (fun _ h9 => h9) dX1_kind_46 ?_
        refine lv_goto (tgt := 55) hx hb dX1_kind_49 (by decide) ?_
        have hw : R_kind t f = 4 := by unfold R_kind; rw [if_neg c_1, if_pos c_2, if_pos c_4]; try rfl
        exact W.aret hx hb hr (Or.inl ⟨_, rfl⟩) (Or.inr ⟨_, rfl⟩) (fun t9 ht hW => ⟨some (4), rfl, (congrArg some hw).symm, ht⟩) t_nil dX1_kind_55
  · refine lv_aload_n hx hb dX1_kind_9 rfl (lv_at hl 1 rfl) ?_
    refine va_get (v := .long f) (C := RX1) (T := TX1) (N := 2) hx hb hts in_X1 hown hK hP 0 rfl rfl 1 (by decide) w_1 (fun _ h9 => h9) rfl dX1_kind_10 ?_
    refine lv_lconst (v := 0) hx hb dX1_kind_13 (by decide) ?_
    refine q_cl_ne (tgt := 24) hx hb dX1_kind_14 dX1_kind_15 (by decide) (fun c_5 => ?_) (fun c_5 => ?_)
    · refine va_gets (v := .ref (ad 1)) hx hb (hE.1.1 1 (by decide)).1 hS hown w_7 (fun _ h9 => h9) dX1_kind_24 ?_
      have hw : R_kind t f = 1 := by unfold R_kind; rw [if_pos c_1, if_neg c_5]; try rfl
      exact W.aret hx hb hr (Or.inl ⟨_, rfl⟩) (Or.inr ⟨_, rfl⟩) (fun t9 ht hW => ⟨some (1), rfl, (congrArg some hw).symm, ht⟩) t_nil dX1_kind_27
    · refine va_gets (v := .ref (ad 0)) hx hb (hE.1.1 0 (by decide)).1 hS hown w_8 (fun _ h9 => h9) dX1_kind_18 ?_
      refine lv_goto (tgt := 27) hx hb dX1_kind_21 (by decide) ?_
      have hw : R_kind t f = 0 := by unfold R_kind; rw [if_pos c_1, if_pos c_5]; try rfl
      exact W.aret hx hb hr (Or.inl ⟨_, rfl⟩) (Or.inr ⟨_, rfl⟩) (fun t9 ht hW => ⟨some (0), rfl, (congrArg some hw).symm, ht⟩) t_nil dX1_kind_27
theorem R_kind_lt (t : Int32) (f : Int64) : R_kind t f < 6 := by
  unfold R_kind
  repeat' split
  all_goals decide
def R_isOf (t : Int32) (f : Int64) (k : Nat) : Bool :=
  if (R_kind t f) = k then true
  else false
theorem kS_X1_isOf : yX1_isOf.cls ≠ "java/lang/invoke/MethodHandle" ∧ yX1_isOf.cls ≠ "java/lang/invoke/VarHandle" ∧ (parseMethodDescriptor yX1_isOf.desc).map (fun d => d.parameters.length) = some 1 := by decide +kernel
theorem kV_X1_isOf : yX1_isOf.cls = RX1 ∧ yX1_isOf.cls ≠ "java/lang/invoke/MethodHandle" ∧ yX1_isOf.cls ≠ "java/lang/invoke/VarHandle" ∧ (parseMethodDescriptor yX1_isOf.desc).map (fun d => d.parameters.length) = some 1 := ⟨rfl, kS_X1_isOf⟩
set_option maxHeartbeats 4000000 in
set_option maxRecDepth 100000 in
theorem c_X1_isOf (l : Launch) (D : va_G) (ad : Nat → Nat) (x : Nat) (t : Int32) (f : Int64) (k : Nat) (hk : k < 6) : Met l yX1_isOf wsX1_isOf ({ frames := 2, cells := 0, slots := 0, locals := 41 } : Room) (va_Pc [.ref x, .ref (ad k)] (EB D [] ad [cReal x t f])) (vp_Si (fun r => r = bI (R_isOf t f k))) 0 0 (fun _ => False) := by
  refine Met.ofW (cc := cX1_isOf) (maxL := 2) (ret := (some .boolean)) (by decide) rfl ?_
  intro p e s m args below meth c s₁ B hml hv
  obtain ⟨rfl, hP, hK, hE⟩ := hv
  have hx := B.exec
  have hb := B.bytes
  have hr := B.returns
  have hts := atoms_spec (ws := wsX1_isOf) B.pre
  have hown : s.vm.findClass RX1 = some m.cls := findClass_of_methodNamed B.named
  have hlocks := B.notSynchronized
  have hS : va_S (fun _ : Nat => False) s.heap s.heap [] := va_S.rf
  have hl := lv_entry ([.ref x, .ref (ad k)]) (n := 2) (Nat.le_of_ble_eq_true rfl)
  rw [lg_entry_eq]
  generalize (lg_sl ([.ref x, .ref (ad k)]) ++ List.replicate (2 - (lg_sl ([.ref x, .ref (ad k)])).length) Slot.unset).toArray = ls at hl ⊢
  have hl : lv_has ls 2 [(0, .ref x), (1, .ref (ad k))] := hl
  refine lv_aload_n hx hb dX1_isOf_0 rfl (lv_at hl 0 rfl) ?_
  refine va_cse (va_cr (va_runV (As := []) (rest := []) ⟨hx, hb, hml, hown, hts⟩ (c_X1_kind l D ad x t f) (cwV 0 hts gX1_isOf_X1_kind rfl rfl rfl kV_X1_kind ⟨Nat.le_of_ble_eq_true rfl, Nat.le_of_ble_eq_true rfl⟩) ⟨EB.blind, va_recv hK hP (ci := 0) (q0 := 0) rfl rfl, EB.pre (hK.sub [] rfl) (hP.sub [0] rfl) hE hS⟩ rfl rfl hl.1 rfl (lv_room (Nat.le_of_ble_eq_true rfl)) dX1_isOf_1 ⟨Nat.le_of_ble_eq_true rfl, Nat.le_of_ble_eq_true rfl⟩)) (fun r9 e9 => ?_)
  rw [e9]
  refine lv_aload_n hx hb dX1_isOf_4 rfl (lv_at hl 1 rfl) ?_
  refine lv_acmp_ne (rx := some (ad (R_kind t f))) (ry := some (ad k)) (tgt := 12) hx hb dX1_isOf_5 (by decide) (fun c_1 => ?_) (fun c_1 => ?_)
  · have c_1 : ¬ (R_kind t f) = k := fun z => c_1 (by rw [z])
    refine lv_iconst (v := 0) hx hb dX1_isOf_12 (by decide) ?_
    have hw : R_isOf t f k = false := by unfold R_isOf; rw [if_neg c_1]; try rfl
    exact W.zret hx hb hr rfl (fun t9 ht hW => ⟨_, rfl, (congrArg bI hw).symm, ht⟩) t_nil dX1_isOf_13
  · have c_1 : (R_kind t f) = k := hE.1.2 _ _ (R_kind_lt _ _) hk (Option.some.inj c_1)
    refine lv_iconst (v := 1) hx hb dX1_isOf_8 (by decide) ?_
    refine lv_goto (tgt := 13) hx hb dX1_isOf_9 (by decide) ?_
    have hw : R_isOf t f k = true := by unfold R_isOf; rw [if_pos c_1]; try rfl
    exact W.zret hx hb hr rfl (fun t9 ht hW => ⟨_, rfl, (congrArg bI hw).symm, ht⟩) t_nil dX1_isOf_13
def R_nought (t : Int32) (f : Int64) : Bool :=
  (if f = 0 then (if (R_pow t) = 32767 then false else true) else false)
theorem kS_X1_isNought : yX1_isNought.cls ≠ "java/lang/invoke/MethodHandle" ∧ yX1_isNought.cls ≠ "java/lang/invoke/VarHandle" ∧ (parseMethodDescriptor yX1_isNought.desc).map (fun d => d.parameters.length) = some 0 := by decide +kernel
theorem kV_X1_isNought : yX1_isNought.cls = RX1 ∧ yX1_isNought.cls ≠ "java/lang/invoke/MethodHandle" ∧ yX1_isNought.cls ≠ "java/lang/invoke/VarHandle" ∧ (parseMethodDescriptor yX1_isNought.desc).map (fun d => d.parameters.length) = some 0 := ⟨rfl, kS_X1_isNought⟩
set_option maxHeartbeats 4000000 in
set_option maxRecDepth 100000 in
theorem c_X1_isNought (l : Launch) (D : va_G) (ad : Nat → Nat) (x : Nat) (t : Int32) (f : Int64) : Met l yX1_isNought wsX1_isNought ({ frames := 1, cells := 0, slots := 0, locals := 20 } : Room) (va_Pc [.ref x] (EB D [] ad [cReal x t f])) (vp_Si (fun r => r = bI (R_nought t f))) 0 0 (fun _ => False) := by
  refine Met.ofW (cc := cX1_isNought) (maxL := 1) (ret := (some .boolean)) (by decide) rfl ?_
  intro p e s m args below meth c s₁ B hml hv
  obtain ⟨rfl, hP, hK, hE⟩ := hv
  have hx := B.exec
  have hb := B.bytes
  have hr := B.returns
  have hts := atoms_spec (ws := wsX1_isNought) B.pre
  have hown : s.vm.findClass RX1 = some m.cls := findClass_of_methodNamed B.named
  have hlocks := B.notSynchronized
  have w_1 := hts (.fieldLink RX1 15 "RealSteps$Real" "fraction" "J") (by decide +kernel)
  have in_X1 : ∀ w ∈ wsX10, w ∈ wsX1_isNought := by decide +kernel
  have hS : va_S (fun _ : Nat => False) s.heap s.heap [] := va_S.rf
  have hl := lv_entry ([.ref x]) (n := 1) (Nat.le_of_ble_eq_true rfl)
  rw [lg_entry_eq]
  generalize (lg_sl ([.ref x]) ++ List.replicate (1 - (lg_sl ([.ref x])).length) Slot.unset).toArray = ls at hl ⊢
  have hl : lv_has ls 1 [(0, .ref x)] := hl
  refine lv_aload_n hx hb dX1_isNought_0 rfl (lv_at hl 0 rfl) ?_
  refine va_get (v := .long f) (C := RX1) (T := TX1) (N := 2) hx hb hts in_X1 hown hK hP 0 rfl rfl 1 (by decide) w_1 (fun _ h9 => h9) rfl dX1_isNought_1 ?_
  refine lv_lconst (v := 0) hx hb dX1_isNought_4 (by decide) ?_
  refine q_cut (v := bI (if f = 0 then (if (R_pow t) = 32767 then false else true) else false)) (pcJ := 24) (rest := []) (fun J => ?_) ?_
  · refine q_cl_ne (tgt := 23) hx hb dX1_isNought_5 dX1_isNought_6 (by decide) (fun c_1 => ?_) (fun c_1 => ?_)
    · refine lv_iconst (v := 0) hx hb dX1_isNought_23 (by decide) ?_
      exact J _ (by rw [if_neg c_1]; try rfl)
    · refine lv_aload_n hx hb dX1_isNought_9 rfl (lv_at hl 0 rfl) ?_
      refine vp_callSi (va_cr (va_runV (As := []) (rest := []) ⟨hx, hb, hml, hown, hts⟩ (c_X1_power l D ad x t f) (cwV 0 hts gX1_isNought_X1_power rfl rfl rfl kV_X1_power ⟨Nat.le_of_ble_eq_true rfl, Nat.le_of_ble_eq_true rfl⟩) ⟨EB.blind, va_recv hK hP (ci := 0) (q0 := 0) rfl rfl, EB.pre (hK.sub [] rfl) (hP.sub [0] rfl) hE hS⟩ rfl rfl hl.1 rfl (lv_room (Nat.le_of_ble_eq_true rfl)) dX1_isNought_10 ⟨Nat.le_of_ble_eq_true rfl, Nat.le_of_ble_eq_true rfl⟩)) (fun r9 e9 => ?_)
      rw [e9]
      refine lv_sipush (v := 32767) hx hb dX1_isNought_13 (by decide) ?_
      refine lv_icmp_eq (tgt := 23) hx hb dX1_isNought_16 (by decide) (fun c_2 => ?_) (fun c_2 => ?_)
      · refine lv_iconst (v := 0) hx hb dX1_isNought_23 (by decide) ?_
        exact J _ (by rw [if_pos c_1, if_pos c_2]; try rfl)
      · refine lv_iconst (v := 1) hx hb dX1_isNought_19 (by decide) ?_
        refine lv_goto (tgt := 24) hx hb dX1_isNought_20 (by decide) ?_
        exact J _ (by rw [if_pos c_1, if_neg c_2]; try rfl)
  have hw : R_nought t f = (if f = 0 then (if (R_pow t) = 32767 then false else true) else false) := rfl
  exact W.zret hx hb hr (bI_nar _) (fun t9 ht hW => ⟨_, rfl, (congrArg bI hw).symm, ht⟩) t_nil dX1_isNought_24
def R_side (t : Int32) (f : Int64) : Int32 :=
  if bI (R_nought t f) = 0 then (if bI (R_neg t) = 0 then (1 : Int32) else (-1 : Int32))
  else 0
theorem kS_X1_side : yX1_side.cls ≠ "java/lang/invoke/MethodHandle" ∧ yX1_side.cls ≠ "java/lang/invoke/VarHandle" ∧ (parseMethodDescriptor yX1_side.desc).map (fun d => d.parameters.length) = some 0 := by decide +kernel
theorem kV_X1_side : yX1_side.cls = RX1 ∧ yX1_side.cls ≠ "java/lang/invoke/MethodHandle" ∧ yX1_side.cls ≠ "java/lang/invoke/VarHandle" ∧ (parseMethodDescriptor yX1_side.desc).map (fun d => d.parameters.length) = some 0 := ⟨rfl, kS_X1_side⟩
set_option maxHeartbeats 4000000 in
set_option maxRecDepth 100000 in
theorem c_X1_side (l : Launch) (D : va_G) (ad : Nat → Nat) (x : Nat) (t : Int32) (f : Int64) : Met l yX1_side wsX1_side ({ frames := 2, cells := 0, slots := 0, locals := 40 } : Room) (va_Pc [.ref x] (EB D [] ad [cReal x t f])) (vp_Si (fun r => r = R_side t f)) 0 0 (fun _ => False) := by
  refine Met.ofW (cc := cX1_side) (maxL := 1) (ret := (some .int)) (by decide) rfl ?_
  intro p e s m args below meth c s₁ B hml hv
  obtain ⟨rfl, hP, hK, hE⟩ := hv
  have hx := B.exec
  have hb := B.bytes
  have hr := B.returns
  have hts := atoms_spec (ws := wsX1_side) B.pre
  have hown : s.vm.findClass RX1 = some m.cls := findClass_of_methodNamed B.named
  have hlocks := B.notSynchronized
  have hS : va_S (fun _ : Nat => False) s.heap s.heap [] := va_S.rf
  have hl := lv_entry ([.ref x]) (n := 1) (Nat.le_of_ble_eq_true rfl)
  rw [lg_entry_eq]
  generalize (lg_sl ([.ref x]) ++ List.replicate (1 - (lg_sl ([.ref x])).length) Slot.unset).toArray = ls at hl ⊢
  have hl : lv_has ls 1 [(0, .ref x)] := hl
  refine lv_aload_n hx hb dX1_side_0 rfl (lv_at hl 0 rfl) ?_
  refine vp_callSi (va_cr (va_runV (As := []) (rest := []) ⟨hx, hb, hml, hown, hts⟩ (c_X1_isNought l D ad x t f) (cwV 0 hts gX1_side_X1_isNought rfl rfl rfl kV_X1_isNought ⟨Nat.le_of_ble_eq_true rfl, Nat.le_of_ble_eq_true rfl⟩) ⟨EB.blind, va_recv hK hP (ci := 0) (q0 := 0) rfl rfl, EB.pre (hK.sub [] rfl) (hP.sub [0] rfl) hE hS⟩ rfl rfl hl.1 rfl (lv_room (Nat.le_of_ble_eq_true rfl)) dX1_side_1 ⟨Nat.le_of_ble_eq_true rfl, Nat.le_of_ble_eq_true rfl⟩)) (fun r9 e9 => ?_)
  rw [e9]
  refine lv_if_eq (tgt := 9) hx hb dX1_side_4 (by decide) (fun c_1 => ?_) (fun c_1 => ?_)
  · refine lv_aload_n hx hb dX1_side_9 rfl (lv_at hl 0 rfl) ?_
    refine vp_callSi (va_cr (va_runV (As := []) (rest := []) ⟨hx, hb, hml, hown, hts⟩ (c_X1_isNegative l D ad x t f) (cwV 0 hts gX1_side_X1_isNegative rfl rfl rfl kV_X1_isNegative ⟨Nat.le_of_ble_eq_true rfl, Nat.le_of_ble_eq_true rfl⟩) ⟨EB.blind, va_recv hK hP (ci := 0) (q0 := 0) rfl rfl, EB.pre (hK.sub [] rfl) (hP.sub [0] rfl) hE hS⟩ rfl rfl hl.1 rfl (lv_room (Nat.le_of_ble_eq_true rfl)) dX1_side_10 ⟨Nat.le_of_ble_eq_true rfl, Nat.le_of_ble_eq_true rfl⟩)) (fun r9 e9 => ?_)
    rw [e9]
    refine q_cut (v := (if bI (R_neg t) = 0 then (1 : Int32) else (-1 : Int32))) (pcJ := 21) (rest := []) (fun J => ?_) ?_
    · refine lv_if_eq (tgt := 20) hx hb dX1_side_13 (by decide) (fun c_2 => ?_) (fun c_2 => ?_)
      · refine lv_iconst (v := 1) hx hb dX1_side_20 (by decide) ?_
        exact J _ (by rw [if_pos c_2]; try rfl)
      · refine lv_iconst (v := (-1)) hx hb dX1_side_16 (by decide) ?_
        refine lv_goto (tgt := 21) hx hb dX1_side_17 (by decide) ?_
        exact J _ (by rw [if_neg c_2]; try rfl)
    have hw : R_side t f = (if bI (R_neg t) = 0 then (1 : Int32) else (-1 : Int32)) := by unfold R_side; rw [if_pos c_1]; try rfl
    exact W.iret hx hb hr (fun t9 ht hW => ⟨_, rfl, hw.symm, ht⟩) t_nil dX1_side_21
  · refine lv_iconst (v := 0) hx hb dX1_side_7 (by decide) ?_
    have hw : R_side t f = 0 := by unfold R_side; rw [if_neg c_1]; try rfl
    exact W.iret hx hb hr (fun t9 ht hW => ⟨_, rfl, hw.symm, ht⟩) t_nil dX1_side_8
def R_unit (t : Int32) : Int32 :=
  ((if (R_pow t) < 1 then 1 else (R_pow t)) - 16446)
theorem kS_X1_unit : yX1_unit.cls ≠ "java/lang/invoke/MethodHandle" ∧ yX1_unit.cls ≠ "java/lang/invoke/VarHandle" ∧ (parseMethodDescriptor yX1_unit.desc).map (fun d => d.parameters.length) = some 0 := by decide +kernel
theorem kV_X1_unit : yX1_unit.cls = RX1 ∧ yX1_unit.cls ≠ "java/lang/invoke/MethodHandle" ∧ yX1_unit.cls ≠ "java/lang/invoke/VarHandle" ∧ (parseMethodDescriptor yX1_unit.desc).map (fun d => d.parameters.length) = some 0 := ⟨rfl, kS_X1_unit⟩
set_option maxHeartbeats 4000000 in
set_option maxRecDepth 100000 in
theorem c_X1_unit (l : Launch) (D : va_G) (ad : Nat → Nat) (x : Nat) (t : Int32) (f : Int64) : Met l yX1_unit wsX1_unit ({ frames := 1, cells := 0, slots := 0, locals := 20 } : Room) (va_Pc [.ref x] (EB D [] ad [cReal x t f])) (vp_Si (fun r => r = R_unit t)) 0 0 (fun _ => False) := by
  refine Met.ofW (cc := cX1_unit) (maxL := 1) (ret := (some .int)) (by decide) rfl ?_
  intro p e s m args below meth c s₁ B hml hv
  obtain ⟨rfl, hP, hK, hE⟩ := hv
  have hx := B.exec
  have hb := B.bytes
  have hr := B.returns
  have hts := atoms_spec (ws := wsX1_unit) B.pre
  have hown : s.vm.findClass RX1 = some m.cls := findClass_of_methodNamed B.named
  have hlocks := B.notSynchronized
  have w_1 := hts (.methodLink RX1 56 Lib.Math.max.name) (by decide +kernel)
  have w_2 := hts (.static Lib.Math.max.name) (by decide +kernel)
  have w_3 := hts (.initialized "java/lang/Math") (by decide +kernel)
  have w_4 := hts (.code Lib.Math.max.name Lib.Math.max.code 2 (some .int)) (by decide +kernel)
  have hS : va_S (fun _ : Nat => False) s.heap s.heap [] := va_S.rf
  have hl := lv_entry ([.ref x]) (n := 1) (Nat.le_of_ble_eq_true rfl)
  rw [lg_entry_eq]
  generalize (lg_sl ([.ref x]) ++ List.replicate (1 - (lg_sl ([.ref x])).length) Slot.unset).toArray = ls at hl ⊢
  have hl : lv_has ls 1 [(0, .ref x)] := hl
  refine lv_aload_n hx hb dX1_unit_0 rfl (lv_at hl 0 rfl) ?_
  refine vp_callSi (va_cr (va_runV (As := []) (rest := []) ⟨hx, hb, hml, hown, hts⟩ (c_X1_power l D ad x t f) (cwV 0 hts gX1_unit_X1_power rfl rfl rfl kV_X1_power ⟨Nat.le_of_ble_eq_true rfl, Nat.le_of_ble_eq_true rfl⟩) ⟨EB.blind, va_recv hK hP (ci := 0) (q0 := 0) rfl rfl, EB.pre (hK.sub [] rfl) (hP.sub [0] rfl) hE hS⟩ rfl rfl hl.1 rfl (lv_room (Nat.le_of_ble_eq_true rfl)) dX1_unit_1 ⟨Nat.le_of_ble_eq_true rfl, Nat.le_of_ble_eq_true rfl⟩)) (fun r9 e9 => ?_)
  rw [e9]
  refine lv_iconst (v := 1) hx hb dX1_unit_4 (by decide) ?_
  refine va_mmax hx hb (hml.trans hl.1.symm) hown w_1 w_2 w_3 w_4 (Nat.le_of_ble_eq_true rfl) (Nat.le_of_ble_eq_true rfl) (Nat.le_of_ble_eq_true rfl) (Nat.le_of_ble_eq_true rfl) dX1_unit_5 ?_
  refine lv_sipush (v := 16446) hx hb dX1_unit_8 (by decide) ?_
  refine lv_isub hx hb dX1_unit_11 ?_
  have hw : R_unit t = ((if (R_pow t) < 1 then 1 else (R_pow t)) - 16446) := rfl
  exact W.iret hx hb hr (fun t9 ht hW => ⟨_, rfl, hw.symm, ht⟩) t_nil dX1_unit_12
def R_exp (t : Int32) (f : Int64) : Int32 :=
  (((R_unit t) + 63) - (J_nlz64 f))
theorem kS_X1_exponent : yX1_exponent.cls ≠ "java/lang/invoke/MethodHandle" ∧ yX1_exponent.cls ≠ "java/lang/invoke/VarHandle" ∧ (parseMethodDescriptor yX1_exponent.desc).map (fun d => d.parameters.length) = some 0 := by decide +kernel
theorem kV_X1_exponent : yX1_exponent.cls = RX1 ∧ yX1_exponent.cls ≠ "java/lang/invoke/MethodHandle" ∧ yX1_exponent.cls ≠ "java/lang/invoke/VarHandle" ∧ (parseMethodDescriptor yX1_exponent.desc).map (fun d => d.parameters.length) = some 0 := ⟨rfl, kS_X1_exponent⟩
set_option maxHeartbeats 4000000 in
set_option maxRecDepth 100000 in
theorem c_X1_exponent (l : Launch) (D : va_G) (ad : Nat → Nat) (x : Nat) (t : Int32) (f : Int64) : Met l yX1_exponent wsX1_exponent ({ frames := 2, cells := 0, slots := 0, locals := 43 } : Room) (va_Pc [.ref x] (EB D [] ad [cReal x t f])) (vp_Si (fun r => r = R_exp t f)) 0 0 (fun _ => False) := by
  refine Met.ofW (cc := cX1_exponent) (maxL := 1) (ret := (some .int)) (by decide) rfl ?_
  intro p e s m args below meth c s₁ B hml hv
  obtain ⟨rfl, hP, hK, hE⟩ := hv
  have hx := B.exec
  have hb := B.bytes
  have hr := B.returns
  have hts := atoms_spec (ws := wsX1_exponent) B.pre
  have hown : s.vm.findClass RX1 = some m.cls := findClass_of_methodNamed B.named
  have hlocks := B.notSynchronized
  have w_1 := hts (.fieldLink RX1 15 "RealSteps$Real" "fraction" "J") (by decide +kernel)
  have in_X1 : ∀ w ∈ wsX10, w ∈ wsX1_exponent := by decide +kernel
  have hS : va_S (fun _ : Nat => False) s.heap s.heap [] := va_S.rf
  have hl := lv_entry ([.ref x]) (n := 1) (Nat.le_of_ble_eq_true rfl)
  rw [lg_entry_eq]
  generalize (lg_sl ([.ref x]) ++ List.replicate (1 - (lg_sl ([.ref x])).length) Slot.unset).toArray = ls at hl ⊢
  have hl : lv_has ls 1 [(0, .ref x)] := hl
  refine lv_aload_n hx hb dX1_exponent_0 rfl (lv_at hl 0 rfl) ?_
  refine vp_callSi (va_cr (va_runV (As := []) (rest := []) ⟨hx, hb, hml, hown, hts⟩ (c_X1_unit l D ad x t f) (cwV 0 hts gX1_exponent_X1_unit rfl rfl rfl kV_X1_unit ⟨Nat.le_of_ble_eq_true rfl, Nat.le_of_ble_eq_true rfl⟩) ⟨EB.blind, va_recv hK hP (ci := 0) (q0 := 0) rfl rfl, EB.pre (hK.sub [] rfl) (hP.sub [0] rfl) hE hS⟩ rfl rfl hl.1 rfl (lv_room (Nat.le_of_ble_eq_true rfl)) dX1_exponent_1 ⟨Nat.le_of_ble_eq_true rfl, Nat.le_of_ble_eq_true rfl⟩)) (fun r9 e9 => ?_)
  rw [e9]
  refine lv_bipush (v := 63) hx hb dX1_exponent_4 (by decide) ?_
  refine lv_iadd hx hb dX1_exponent_6 ?_
  refine lv_aload_n hx hb dX1_exponent_7 rfl (lv_at hl 0 rfl) ?_
  refine va_get (v := .long f) (C := RX1) (T := TX1) (N := 2) hx hb hts in_X1 hown hK hP 0 rfl rfl 1 (by decide) w_1 (fun _ h9 => h9) rfl dX1_exponent_8 ?_
  refine vp_callSi (va_cr (va_runS (As := [.long f]) (rest := [.int ((R_unit t) + 63)]) ⟨hx, hb, hml, hown, hts⟩ (c_J13_numberOfLeadingZeros_95d88 l f) (va_cwS 1 hts gX1_exponent_J13_numberOfLeadingZeros_95d88 rfl rfl rfl kS_J13_numberOfLeadingZeros_95d88 ⟨Nat.le_of_ble_eq_true rfl, Nat.le_of_ble_eq_true rfl⟩) ⟨TB.blind, TB.pre⟩ rfl rfl hl.1 rfl (lv_room (Nat.le_of_ble_eq_true rfl)) dX1_exponent_11 ⟨Nat.le_of_ble_eq_true rfl, Nat.le_of_ble_eq_true rfl⟩)) (fun r9 e9 => ?_)
  rw [e9]
  refine lv_isub hx hb dX1_exponent_14 ?_
  have hw : R_exp t f = (((R_unit t) + 63) - (J_nlz64 f)) := rfl
  exact W.iret hx hb hr (fun t9 ht hW => ⟨_, rfl, hw.symm, ht⟩) t_nil dX1_exponent_15
def R_norm (f : Int64) : Int64 :=
  (jlshl f (J_nlz64 f))
theorem kS_X1_normalised : yX1_normalised.cls ≠ "java/lang/invoke/MethodHandle" ∧ yX1_normalised.cls ≠ "java/lang/invoke/VarHandle" ∧ (parseMethodDescriptor yX1_normalised.desc).map (fun d => d.parameters.length) = some 0 := by decide +kernel
theorem kV_X1_normalised : yX1_normalised.cls = RX1 ∧ yX1_normalised.cls ≠ "java/lang/invoke/MethodHandle" ∧ yX1_normalised.cls ≠ "java/lang/invoke/VarHandle" ∧ (parseMethodDescriptor yX1_normalised.desc).map (fun d => d.parameters.length) = some 0 := ⟨rfl, kS_X1_normalised⟩
set_option maxHeartbeats 4000000 in
set_option maxRecDepth 100000 in
theorem c_X1_normalised (l : Launch) (D : va_G) (ad : Nat → Nat) (x : Nat) (t : Int32) (f : Int64) : Met l yX1_normalised wsX1_normalised ({ frames := 2, cells := 0, slots := 0, locals := 43 } : Room) (va_Pc [.ref x] (EB D [] ad [cReal x t f])) (vp_Sl (fun r => r = R_norm f)) 0 0 (fun _ => False) := by
  refine Met.ofW (cc := cX1_normalised) (maxL := 1) (ret := (some .long)) (by decide) rfl ?_
  intro p e s m args below meth c s₁ B hml hv
  obtain ⟨rfl, hP, hK, hE⟩ := hv
  have hx := B.exec
  have hb := B.bytes
  have hr := B.returns
  have hts := atoms_spec (ws := wsX1_normalised) B.pre
  have hown : s.vm.findClass RX1 = some m.cls := findClass_of_methodNamed B.named
  have hlocks := B.notSynchronized
  have w_1 := hts (.fieldLink RX1 15 "RealSteps$Real" "fraction" "J") (by decide +kernel)
  have in_X1 : ∀ w ∈ wsX10, w ∈ wsX1_normalised := by decide +kernel
  have hS : va_S (fun _ : Nat => False) s.heap s.heap [] := va_S.rf
  have hl := lv_entry ([.ref x]) (n := 1) (Nat.le_of_ble_eq_true rfl)
  rw [lg_entry_eq]
  generalize (lg_sl ([.ref x]) ++ List.replicate (1 - (lg_sl ([.ref x])).length) Slot.unset).toArray = ls at hl ⊢
  have hl : lv_has ls 1 [(0, .ref x)] := hl
  refine lv_aload_n hx hb dX1_normalised_0 rfl (lv_at hl 0 rfl) ?_
  refine va_get (v := .long f) (C := RX1) (T := TX1) (N := 2) hx hb hts in_X1 hown hK hP 0 rfl rfl 1 (by decide) w_1 (fun _ h9 => h9) rfl dX1_normalised_1 ?_
  refine lv_aload_n hx hb dX1_normalised_4 rfl (lv_at hl 0 rfl) ?_
  refine va_get (v := .long f) (C := RX1) (T := TX1) (N := 2) hx hb hts in_X1 hown hK hP 0 rfl rfl 1 (by decide) w_1 (fun _ h9 => h9) rfl dX1_normalised_5 ?_
  refine vp_callSi (va_cr (va_runS (As := [.long f]) (rest := [.long f]) ⟨hx, hb, hml, hown, hts⟩ (c_J13_numberOfLeadingZeros_95d88 l f) (va_cwS 1 hts gX1_normalised_J13_numberOfLeadingZeros_95d88 rfl rfl rfl kS_J13_numberOfLeadingZeros_95d88 ⟨Nat.le_of_ble_eq_true rfl, Nat.le_of_ble_eq_true rfl⟩) ⟨TB.blind, TB.pre⟩ rfl rfl hl.1 rfl (lv_room (Nat.le_of_ble_eq_true rfl)) dX1_normalised_8 ⟨Nat.le_of_ble_eq_true rfl, Nat.le_of_ble_eq_true rfl⟩)) (fun r9 e9 => ?_)
  rw [e9]
  refine lv_lshl (v := (jlshl f (J_nlz64 f))) hx hb dX1_normalised_11 rfl ?_
  have hw : R_norm f = (jlshl f (J_nlz64 f)) := rfl
  exact W.lret hx hb hr (fun t9 ht hW => ⟨_, rfl, hw.symm, ht⟩) t_nil dX1_normalised_12
