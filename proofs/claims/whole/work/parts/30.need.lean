/-! what the class throws -/
def decW : List Cond := [.declares (Bundle.initS "java/lang/RuntimeException"), .declares (Bundle.initS "java/lang/Exception"), .declares (Bundle.initS Bundle.tN)]
def DW (U : State) : Prop := ∀ w ∈ decW, va_Nw w U
theorem DW.warm {s U : State} (hW : s.WarmedH U.vm) (h : DW s) : DW U := by
  simp only [DW, decW, List.forall_mem_cons] at h ⊢
  obtain ⟨h1, h2, h3, -⟩ := h
  exact ⟨h1.warmD hW, h2.warmD hW, h3.warmD hW, fun _ h => absurd h List.not_mem_nil⟩
theorem DW.same {s U : State} (hW : s.vm = U.vm) (h : DW s) : DW U := by
  simp only [DW, decW, List.forall_mem_cons] at h ⊢
  obtain ⟨h1, h2, h3, -⟩ := h
  exact ⟨h1.same rfl hW, h2.same rfl hW, h3.same rfl hW, fun _ h => absurd h List.not_mem_nil⟩
def TXB (P : State → Prop) : State → Prop := fun U => P U ∧ DW U
theorem TXB.blind {P : State → Prop} {av : List Value} (h : FrameBlind (va_Pc av P)) : FrameBlind (va_Pc av (TXB P)) := fun a U g mk q => ⟨(h a U g mk ⟨q.1, q.2.1⟩).1, (h a U g mk ⟨q.1, q.2.1⟩).2, DW.same (show U.vm = (U.calling g mk a).vm from rfl) q.2.2⟩
theorem TXB.pre {P : State → Prop} {av : List Value} {s : State} {H : Heap} (h : ∀ U : State, U.heap = H → s.WarmedH U.vm → va_Pc av P av.toArray U) (hd : DW s) : ∀ U : State, U.heap = H → s.WarmedH U.vm → va_Pc av (TXB P) av.toArray U := fun U hU hW => ⟨(h U hU hW).1, (h U hU hW).2, hd.warm hW⟩
theorem gx_xIOB : ∀ w ∈ Cond.classLink RX2 142 xIOB :: Cond.initialized xIOB :: vx_atS RX2 146 xIOB xNm, vx_ot w = true := by decide +kernel
theorem gb_xIOB : ∀ w ∈ (vx_atS RX2 146 xIOB xNm).filter (fun w => !goodWord w), w ∈ Cond.castable xIOB xIOB :: decW := by decide +kernel
theorem gf_xIOB : Bundle.fit xIOB = true := by decide +kernel
theorem gx_xIAE : ∀ w ∈ Cond.classLink RX2 35 xIAE :: Cond.initialized xIAE :: vx_atS RX2 39 xIAE xNm, vx_ot w = true := by decide +kernel
theorem gb_xIAE : ∀ w ∈ (vx_atS RX2 39 xIAE xNm).filter (fun w => !goodWord w), w ∈ Cond.castable xIAE xIAE :: decW := by decide +kernel
theorem gf_xIAE : Bundle.fit xIAE = true := by decide +kernel
theorem gf_Nm : ∀ n ∈ xNm, Bundle.fit n = true := by decide +kernel
def R_need (rg : Int32) : Bool :=
  if rg < 0 then false
  else if rg < 8 then true
  else false
theorem kS_X2_needRegister : yX2_needRegister.cls ≠ "java/lang/invoke/MethodHandle" ∧ yX2_needRegister.cls ≠ "java/lang/invoke/VarHandle" ∧ (parseMethodDescriptor yX2_needRegister.desc).map (fun d => d.parameters.length) = some 1 := by decide +kernel
set_option maxHeartbeats 4000000 in
set_option maxRecDepth 100000 in
theorem c_X2_needRegister (l : Launch) (hl9 : l.stackTraces = false) (D : va_G) (ad : Nat → Nat) (rg : Int32) (sz : Nat) : vx_Met l yX2_needRegister wsX2_needRegister ({ frames := 6, cells := 1, slots := 6, locals := 90 } : Room) (va_Pc [.int rg] (TXB (SCB D ad [] sz))) (va_Qv (fun _ : Unit => R_need rg = true) (fun _ _ => True) (va_A [] sz)) (vx_X (fun _ : Unit => ¬ R_need rg = true) (fun E _ _ => E = xIOB) (va_A [] sz)) 1 6 (va_A [] sz) := by
  refine vx_ofW (cc := cX2_needRegister) (maxL := 1) (ret := none) (by decide) rfl ?_
  intro p e s m args below meth c s₁ B hml htb hv
  obtain ⟨rfl, ⟨hsz, hK, hR0, hE⟩, hDW⟩ := hv
  have hx := B.exec
  have hb := B.bytes
  have hr := B.returns
  have hts := atoms_spec (ws := wsX2_needRegister) B.pre
  have hown : s.vm.findClass RX2 = some m.cls := findClass_of_methodNamed B.named
  have hlocks := B.notSynchronized
  have w_1 := hts (.classLink RX2 142 xIOB) (by decide +kernel)
  have w_2 := hts (.initialized xIOB) (by decide +kernel)
  subst hsz
  have hRA := rs_A0 hR0
  obtain ⟨A, hAe⟩ : ∃ A, va_A [] s.heap.size = A := ⟨_, rfl⟩
  have nzA : ∀ q : Nat, A q → s.heap.size ≤ q := fun q h => va_A_nil (by rw [hAe]; exact h)
  rw [hAe] at hE hRA ⊢
  have hA : ∀ q : Nat, s.heap.size ≤ q → A q := fun q h => by rw [← hAe]; exact Or.inr h
  have hS : va_S A s.heap s.heap [] := va_S.rf
  have hl := lv_entry ([.int rg]) (n := 1) (Nat.le_of_ble_eq_true rfl)
  rw [lg_entry_eq]
  generalize (lg_sl ([.int rg]) ++ List.replicate (1 - (lg_sl ([.int rg])).length) Slot.unset).toArray = ls at hl ⊢
  have hl : lv_has ls 1 [(0, .int rg)] := hl
  refine lv_iload_n hx hb dX2_needRegister_0 rfl (lv_at hl 0 rfl) ?_
  refine lv_if_lt (tgt := 10) hx hb dX2_needRegister_1 (by decide) (fun c_1 => ?_) (fun c_1 => ?_)
  · obtain ⟨sa9, hst9⟩ := hE.2.2.2.1 _ (List.mem_of_getElem? (i := 1) rfl)
    have hw : R_need rg = false := by unfold R_need; rw [if_pos c_1]; try rfl
    exact vx_throwS hx hb hl9 (names := xNm) hown gf_xIOB gf_Nm w_1 w_2 hst9 (vx_hat (B := .castable xIOB xIOB :: decW) (fun w h => hts w (List.mem_cons_of_mem _ (List.mem_append_right _ h))) gb_xIOB (vx_c (va_Nw.use rfl (hE.2.2.1 (.castable xIOB xIOB) (by decide))) (vx_c (va_Nw.use rfl (hDW _ (List.mem_of_getElem? (i := 0) rfl))) (vx_c (va_Nw.use rfl (hDW _ (List.mem_of_getElem? (i := 1) rfl))) (vx_c (va_Nw.use rfl (hDW _ (List.mem_of_getElem? (i := 2) rfl))) vx_n))))) gx_xIOB hE.2.2.2.2.1 hE.2.2.2.2.2.1 hS (hl.1.trans hml.symm) dX2_needRegister_10 dX2_needRegister_13 dX2_needRegister_14 dX2_needRegister_16 dX2_needRegister_19 (fun x h => (htb x h).elim) (Nat.le_of_ble_eq_true rfl) (Nat.le_of_ble_eq_true rfl) (Nat.le_of_ble_eq_true rfl) (Nat.le_of_ble_eq_true rfl) hlocks (fun t9 ha h1 h2 => ⟨(), by rw [hw]; decide, rfl, ⟨Nat.le_trans hS.1 h1, fun q g1 g2 => (h2 q (Nat.lt_of_lt_of_le g1 hS.1)).trans (hS.2.1 q g1 g2)⟩⟩) hS.2.2 (Nat.le_of_ble_eq_true rfl) (Nat.le_of_ble_eq_true rfl)
  · refine lv_iload_n hx hb dX2_needRegister_4 rfl (lv_at hl 0 rfl) ?_
    refine lv_bipush (v := 8) hx hb dX2_needRegister_5 (by decide) ?_
    refine lv_icmp_lt (tgt := 20) hx hb dX2_needRegister_7 (by decide) (fun c_2 => ?_) (fun c_2 => ?_)
    · refine W.widen (k := 1) (n := 6) (Nat.le_of_ble_eq_true rfl) (Nat.le_of_ble_eq_true rfl) ?_
      have hw : R_need rg = true := by unfold R_need; rw [if_neg c_1, if_pos c_2]; try rfl
      exact vx_ret (W.vret hx hb hr (fun t9 ht hW => ⟨⟨(), rfl, hw, trivial⟩, hS.F ht⟩) hS.2.2 dX2_needRegister_20)
    · obtain ⟨sa9, hst9⟩ := hE.2.2.2.1 _ (List.mem_of_getElem? (i := 1) rfl)
      have hw : R_need rg = false := by unfold R_need; rw [if_neg c_1, if_neg c_2]; try rfl
      exact vx_throwS hx hb hl9 (names := xNm) hown gf_xIOB gf_Nm w_1 w_2 hst9 (vx_hat (B := .castable xIOB xIOB :: decW) (fun w h => hts w (List.mem_cons_of_mem _ (List.mem_append_right _ h))) gb_xIOB (vx_c (va_Nw.use rfl (hE.2.2.1 (.castable xIOB xIOB) (by decide))) (vx_c (va_Nw.use rfl (hDW _ (List.mem_of_getElem? (i := 0) rfl))) (vx_c (va_Nw.use rfl (hDW _ (List.mem_of_getElem? (i := 1) rfl))) (vx_c (va_Nw.use rfl (hDW _ (List.mem_of_getElem? (i := 2) rfl))) vx_n))))) gx_xIOB hE.2.2.2.2.1 hE.2.2.2.2.2.1 hS (hl.1.trans hml.symm) dX2_needRegister_10 dX2_needRegister_13 dX2_needRegister_14 dX2_needRegister_16 dX2_needRegister_19 (fun x h => (htb x h).elim) (Nat.le_of_ble_eq_true rfl) (Nat.le_of_ble_eq_true rfl) (Nat.le_of_ble_eq_true rfl) (Nat.le_of_ble_eq_true rfl) hlocks (fun t9 ha h1 h2 => ⟨(), by rw [hw]; decide, rfl, ⟨Nat.le_trans hS.1 h1, fun q g1 g2 => (h2 q (Nat.lt_of_lt_of_le g1 hS.1)).trans (hS.2.1 q g1 g2)⟩⟩) hS.2.2 (Nat.le_of_ble_eq_true rfl) (Nat.le_of_ble_eq_true rfl)
theorem R_need_in {r : Int32} (h : R_need r = true) : vp_in r 8 := by
  unfold R_need at h
  have h8 : (8 : Int32).toInt = 8 := rfl
  have h0 : (0 : Int32).toInt = 0 := rfl
  rw [vp_in_iff]
  split at h
  · cases h
  · split at h
    · rename_i h1 h2
      rw [ilt, h0] at h1
      rw [ilt, h8] at h2
      omega
    · cases h
theorem R_kin {i : Int32} (h1 : ¬ i < 0) (h2 : ¬ (7 : Int32) ≤ i) : vp_in i 7 := by
  have h7 : (7 : Int32).toInt = 7 := rfl
  have h0 : (0 : Int32).toInt = 0 := rfl
  rw [vp_in_iff]
  rw [ilt, h0] at h1
  rw [ile, h7] at h2
  omega
def R_seen (k : Nat) : Int32 := ([8, 12, 0, 4, 5, 1] : List Int32).getD k 0
def R_ktop (i : Int32) : Int32 := ([0, 16383, 16384, 16383, 16384, 16381, 16382] : List Int32).getD i.toNatClampNeg 0
def R_kfrac (i : Int32) : Int64 := ([0, -9223372036854775808, -3127054724296373506, -5140230975865229124, -3958705157555305931, -7340697496662837351, -5660435428506895956] : List Int64).getD i.toNatClampNeg 0
section QE
variable {p : Program} {l : Launch} {e : Env} {R : Room} {s : State} {m : MethodId} {args : Array Value} {below : List Frame} {meth : Method} {c : Code} {H : Heap} {locs : List Loc} {cells slots : Nat} {Q : State → Prop}
variable {cc : ByteArray} {pc : Nat} {ls : Array Slot} {rest : List Value}
theorem q_getEN (hexec : p.tables.exec = Jvm.exec) (hb : c.code = cc) {A : Nat → Prop} {E d own ref host : String} {nm : List String} {F : List (String × String × String × List Int32)} {ad : Nat → Nat} {index i : Nat} (hE : va_En E d nm F ad A s s.heap) (hi : i < nm.length) (hS : va_S A s.heap H locs) (hown : s.vm.findClass own = some m.cls) {q : String × String × String × List Int32} (hq : q ∈ F) (hlink : (Cond.fieldLinkNest own index ref q.2.1 q.2.2.1 host).before args s = true) (hsame : ∀ x, s.fieldFound? q.1 q.2.1 q.2.2.1 = some x → s.fieldFound? ref q.2.1 q.2.2.1 = some x) (hdg : decode cc pc = .ok (.getfield index, 3))
    (kk : W p l e R s m args below meth c H locs cells slots Q (F0 m (pc + 3) ls (.int (q.2.2.2.getD i 0) :: rest))) : W p l e R s m args below meth c H locs cells slots Q (F0 m pc ls (.ref (ad i) :: rest)) := by
  obtain ⟨cf, k, fi, f, cell, h1, h2, h3, h4, h5, h6⟩ := ((hE.1 i hi).2.2 q hq).kept hS.2.1
  exact va_Wgetf hexec hb hown hlink (hsame _ h1) h2 h3 h4 (v := .int (q.2.2.2.getD i 0)) h5 rfl rfl hdg kk
end QE
