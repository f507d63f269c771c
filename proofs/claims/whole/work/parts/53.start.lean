/-! the start: what the Statement and the tables give -/
theorem nar {s : State} {b : Nat} (hgv : (Jvm.Cond.and given_1 narrow_1).before #[Value.ref b] s = true) (n : Nat) {w : Cond} (h : (flatC (Jvm.Cond.and given_1 narrow_1))[n]? = some w) : w.before #[Value.ref b] s = true := flat_of_before _ hgv _ (List.mem_of_getElem? h)
theorem st_kind {s : State} {b : Nat} (hts : ∀ w ∈ lw_tbl, w.before #[Value.ref b] s = true) (hgv : (Jvm.Cond.and given_1 narrow_1).before #[Value.ref b] s = true) {A : Nat → Prop} (hA : ∀ a : Nat, a < s.heap.size → ¬ A a) : ∃ ad : Nat → Nat, va_En RX0 kDs kNm kFl ad A s s.heap := by
  refine va_Enof (args := #[Value.ref b]) ?_ (hts (.initialized RX0) (by decide +kernel)) ?_ ?_ ?_ hA
  · intro i hi
    match i, hi with
    | 0, _ => exact hts (.laysStatic RX0 "ZERO" kDs) (by decide +kernel)
    | 1, _ => exact hts (.laysStatic RX0 "DENORMAL" kDs) (by decide +kernel)
    | 2, _ => exact hts (.laysStatic RX0 "UNNORMAL" kDs) (by decide +kernel)
    | 3, _ => exact hts (.laysStatic RX0 "NORMAL" kDs) (by decide +kernel)
    | 4, _ => exact hts (.laysStatic RX0 "INFINITE" kDs) (by decide +kernel)
    | 5, _ => exact hts (.laysStatic RX0 "NO_NUMBER" kDs) (by decide +kernel)
    | i + 6, h => exact absurd h (by simp [kNm])
  · intro i hi
    match i, hi with
    | 0, _ => exact nar hgv 29 (by decide +kernel)
    | 1, _ => exact nar hgv 33 (by decide +kernel)
    | 2, _ => exact nar hgv 51 (by decide +kernel)
    | 3, _ => exact nar hgv 44 (by decide +kernel)
    | 4, _ => exact nar hgv 38 (by decide +kernel)
    | 5, _ => exact nar hgv 26 (by decide +kernel)
    | i + 6, h => exact absurd h (by simp [kNm])
  · intro q hq i hi
    rw [List.mem_singleton.mp hq]
    match i, hi with
    | 0, _ => exact nar hgv 31 (by decide +kernel)
    | 1, _ => exact nar hgv 35 (by decide +kernel)
    | 2, _ => exact nar hgv 53 (by decide +kernel)
    | 3, _ => exact nar hgv 46 (by decide +kernel)
    | 4, _ => exact nar hgv 40 (by decide +kernel)
    | 5, _ => exact nar hgv 28 (by decide +kernel)
    | i + 6, h => exact absurd h (by simp [kNm])
  · intro i j hi hj hij
    match i, j, hi, hj, hij with
    | 0, 0, _, _, h => exact absurd rfl h
    | 0, 1, _, _, _ => exact Or.inl (nar hgv 37 (by decide +kernel))
    | 0, 2, _, _, _ => exact Or.inl (nar hgv 55 (by decide +kernel))
    | 0, 3, _, _, _ => exact Or.inl (nar hgv 48 (by decide +kernel))
    | 0, 4, _, _, _ => exact Or.inl (nar hgv 42 (by decide +kernel))
    | 0, 5, _, _, _ => exact Or.inr (nar hgv 32 (by decide +kernel))
    | 1, 0, _, _, _ => exact Or.inr (nar hgv 37 (by decide +kernel))
    | 1, 1, _, _, h => exact absurd rfl h
    | 1, 2, _, _, _ => exact Or.inl (nar hgv 56 (by decide +kernel))
    | 1, 3, _, _, _ => exact Or.inl (nar hgv 49 (by decide +kernel))
    | 1, 4, _, _, _ => exact Or.inl (nar hgv 43 (by decide +kernel))
    | 1, 5, _, _, _ => exact Or.inr (nar hgv 36 (by decide +kernel))
    | 2, 0, _, _, _ => exact Or.inr (nar hgv 55 (by decide +kernel))
    | 2, 1, _, _, _ => exact Or.inr (nar hgv 56 (by decide +kernel))
    | 2, 2, _, _, h => exact absurd rfl h
    | 2, 3, _, _, _ => exact Or.inr (nar hgv 58 (by decide +kernel))
    | 2, 4, _, _, _ => exact Or.inr (nar hgv 57 (by decide +kernel))
    | 2, 5, _, _, _ => exact Or.inr (nar hgv 54 (by decide +kernel))
    | 3, 0, _, _, _ => exact Or.inr (nar hgv 48 (by decide +kernel))
    | 3, 1, _, _, _ => exact Or.inr (nar hgv 49 (by decide +kernel))
    | 3, 2, _, _, _ => exact Or.inl (nar hgv 58 (by decide +kernel))
    | 3, 3, _, _, h => exact absurd rfl h
    | 3, 4, _, _, _ => exact Or.inr (nar hgv 50 (by decide +kernel))
    | 3, 5, _, _, _ => exact Or.inr (nar hgv 47 (by decide +kernel))
    | 4, 0, _, _, _ => exact Or.inr (nar hgv 42 (by decide +kernel))
    | 4, 1, _, _, _ => exact Or.inr (nar hgv 43 (by decide +kernel))
    | 4, 2, _, _, _ => exact Or.inl (nar hgv 57 (by decide +kernel))
    | 4, 3, _, _, _ => exact Or.inl (nar hgv 50 (by decide +kernel))
    | 4, 4, _, _, h => exact absurd rfl h
    | 4, 5, _, _, _ => exact Or.inr (nar hgv 41 (by decide +kernel))
    | 5, 0, _, _, _ => exact Or.inl (nar hgv 32 (by decide +kernel))
    | 5, 1, _, _, _ => exact Or.inl (nar hgv 36 (by decide +kernel))
    | 5, 2, _, _, _ => exact Or.inl (nar hgv 54 (by decide +kernel))
    | 5, 3, _, _, _ => exact Or.inl (nar hgv 47 (by decide +kernel))
    | 5, 4, _, _, _ => exact Or.inl (nar hgv 41 (by decide +kernel))
    | 5, 5, _, _, h => exact absurd rfl h
    | i + 6, _, h, _, _ => exact absurd h (by simp [kNm])
    | _, j + 6, _, h, _ => exact absurd h (by simp [kNm])
theorem st_tops {s : State} {b : Nat} (hts : ∀ w ∈ lw_tbl, w.before #[Value.ref b] s = true) (hgv : (Jvm.Cond.and given_1 narrow_1).before #[Value.ref b] s = true) {A : Nat → Prop} (hA : ∀ a : Nat, a < s.heap.size → ¬ A a) : ∃ t, va_Z RX2 "CONSTANT_TOPS" "[I" (.ref t) A s s.heap ∧ va_T .int t 7 kTp A s s.heap := by
  have hel : ∀ j : Nat, j < 7 → (Term.elem (.static RX2 "CONSTANT_TOPS" "[I") (.int (Int32.ofNat j))).eval #[Value.ref b] s none [] s = some (kTp j) := by
    intro j hj
    match j, hj with
    | 0, _ => exact va_eqt (nar hgv 9 (by decide +kernel))
    | 1, _ => exact va_eqt (nar hgv 10 (by decide +kernel))
    | 2, _ => exact va_eqt (nar hgv 11 (by decide +kernel))
    | 3, _ => exact va_eqt (nar hgv 12 (by decide +kernel))
    | 4, _ => exact va_eqt (nar hgv 13 (by decide +kernel))
    | 5, _ => exact va_eqt (nar hgv 14 (by decide +kernel))
    | 6, _ => exact va_eqt (nar hgv 15 (by decide +kernel))
    | j + 7, h => exact absurd h (by omega)
  obtain ⟨t, h1, h2⟩ := va_Tof (args := #[Value.ref b]) (tm := .static RX2 "CONSTANT_TOPS" "[I") (ty := .int) (N := 7) (f := kTp) (A := A) (by decide) (nar hgv 7 (by decide +kernel)) (va_eqt (nar hgv 8 (by decide +kernel))) hel hA
  exact ⟨t, va_Zref (hts (.laysStatic RX2 "CONSTANT_TOPS" "[I") (by decide +kernel)) (hts (.initialized RX2) (by decide +kernel)) h1 hA, h2⟩
theorem st_fracs {s : State} {b : Nat} (hts : ∀ w ∈ lw_tbl, w.before #[Value.ref b] s = true) (hgv : (Jvm.Cond.and given_1 narrow_1).before #[Value.ref b] s = true) {A : Nat → Prop} (hA : ∀ a : Nat, a < s.heap.size → ¬ A a) : ∃ t, va_Z RX2 "CONSTANT_FRACTIONS" "[J" (.ref t) A s s.heap ∧ va_T .long t 7 kFr A s s.heap := by
  have hel : ∀ j : Nat, j < 7 → (Term.elem (.static RX2 "CONSTANT_FRACTIONS" "[J") (.int (Int32.ofNat j))).eval #[Value.ref b] s none [] s = some (kFr j) := by
    intro j hj
    match j, hj with
    | 0, _ => exact va_eqtl (nar hgv 19 (by decide +kernel))
    | 1, _ => exact va_eqtl (nar hgv 20 (by decide +kernel))
    | 2, _ => exact va_eqtl (nar hgv 21 (by decide +kernel))
    | 3, _ => exact va_eqtl (nar hgv 22 (by decide +kernel))
    | 4, _ => exact va_eqtl (nar hgv 23 (by decide +kernel))
    | 5, _ => exact va_eqtl (nar hgv 24 (by decide +kernel))
    | 6, _ => exact va_eqtl (nar hgv 25 (by decide +kernel))
    | j + 7, h => exact absurd h (by omega)
  obtain ⟨t, h1, h2⟩ := va_Tof (args := #[Value.ref b]) (tm := .static RX2 "CONSTANT_FRACTIONS" "[J") (ty := .long) (N := 7) (f := kFr) (A := A) (by decide) (nar hgv 17 (by decide +kernel)) (va_eqt (nar hgv 18 (by decide +kernel))) hel hA
  exact ⟨t, va_Zref (hts (.laysStatic RX2 "CONSTANT_FRACTIONS" "[J") (by decide +kernel)) (hts (.initialized RX2) (by decide +kernel)) h1 hA, h2⟩
theorem st_str {s : State} {b : Nat} (hgv : (Jvm.Cond.and given_1 narrow_1).before #[Value.ref b] s = true) {k : Nat} {tx : String} (h1 : (Cond.stringRef RX2 k tx).before #[Value.ref b] s = true) (h2 : (Cond.exactly (.string RX2 k) "java/lang/String").before #[Value.ref b] s = true) : ∃ sa, vk_R RX2 k tx sa s := by
  obtain ⟨a, c9, cell, k9, q1, -⟩ := Cond.exactly_spec h2
  exact ⟨a, vk_R.of h1 q1⟩
set_option maxRecDepth 20000 in
theorem EE_start {s : State} {b : Nat} (hts : ∀ w ∈ lw_tbl, w.before #[Value.ref b] s = true) (hgv : (Jvm.Cond.and given_1 narrow_1).before #[Value.ref b] s = true) {A : Nat → Prop} (hA : ∀ a : Nat, a < s.heap.size → ¬ A a) : ∃ ad : Nat → Nat, EE ad A s s.heap := by
  have nw : ∀ w ∈ lw_tbl, w.onTables = true → va_Nw w s := fun w hw ho => va_tabs (A' := #[]) ho rfl (hts w hw)
  obtain ⟨ad, hE⟩ := st_kind hts hgv hA
  refine ⟨ad, hE, ?_, ?_, ?_, ?_, ?_, st_tops hts hgv hA, st_fracs hts hgv hA, ?_, ?_⟩
  · simp only [nestW, List.forall_mem_cons]
    exact ⟨nw _ (by decide +kernel) rfl, nw _ (by decide +kernel) rfl, nw _ (by decide +kernel) rfl, nw _ (by decide +kernel) rfl, nw _ (by decide +kernel) rfl, nw _ (by decide +kernel) rfl, nw _ (by decide +kernel) rfl, nw _ (by decide +kernel) rfl, nw _ (by decide +kernel) rfl, nw _ (by decide +kernel) rfl, nw _ (by decide +kernel) rfl, nw _ (by decide +kernel) rfl, fun _ h => absurd h List.not_mem_nil⟩
  · simp only [castW, List.forall_mem_cons]
    exact ⟨nw _ (by decide +kernel) rfl, nw _ (by decide +kernel) rfl, fun _ h => absurd h List.not_mem_nil⟩
  · simp only [strW, List.forall_mem_cons]
    exact ⟨st_str hgv (hts (.stringRef RX2 140 "0 to 3 can be asked") (by decide +kernel)) (nar hgv 275 (by decide +kernel)), st_str hgv (hts (.stringRef RX2 144 "there is no such register") (by decide +kernel)) (nar hgv 96 (by decide +kernel)), st_str hgv (hts (.stringRef RX2 37 "the control has 16 bits") (by decide +kernel)) (nar hgv 69 (by decide +kernel)), st_str hgv (hts (.stringRef RX2 46 "sign and power have 16 bits") (by decide +kernel)) (nar hgv 126 (by decide +kernel)), st_str hgv (hts (.stringRef RX2 59 "a real has the parts 0 to 2") (by decide +kernel)) (nar hgv 159 (by decide +kernel)), st_str hgv (hts (.stringRef RX2 69 "there is no such constant") (by decide +kernel)) (nar hgv 193 (by decide +kernel)), st_str hgv (hts (.stringRef RX2 94 "power and fraction go into two registers") (by decide +kernel)) (nar hgv 226 (by decide +kernel)), fun _ h => absurd h List.not_mem_nil⟩
  · exact vx_Zqof (hts (.laysStatic Bundle.tN "UNASSIGNED_STACK" Bundle.steD) (by decide +kernel)) (hts (.initialized Bundle.tN) (by decide +kernel)) (nar hgv 4 (by decide +kernel)) hA
  · exact vx_Zqof (hts (.laysStatic Bundle.tN "SUPPRESSED_SENTINEL" Bundle.listD) (by decide +kernel)) (hts (.initialized Bundle.tN) (by decide +kernel)) (nar hgv 5 (by decide +kernel)) hA
  · exact va_Nc.of (nar hgv 66 (by decide +kernel))
  · exact va_Nc.of (nar hgv 61 (by decide +kernel))
theorem DW_start {s : State} {b : Nat} (hts : ∀ w ∈ lw_tbl, w.before #[Value.ref b] s = true) : DW s := by
  have nw : ∀ w ∈ lw_tbl, w.onTables = true → va_Nw w s := fun w hw ho => va_tabs (A' := #[]) ho rfl (hts w hw)
  simp only [DW, decW, List.forall_mem_cons]
  exact ⟨nw _ (by decide +kernel) rfl, nw _ (by decide +kernel) rfl, nw _ (by decide +kernel) rfl, fun _ h => absurd h List.not_mem_nil⟩
