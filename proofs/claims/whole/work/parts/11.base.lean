/-! words of mine: booleans, worlds, the environment that stays, the calls -/
def bI (b : Bool) : Int32 := if b = true then 1 else 0
theorem bI_nar (b : Bool) : narrow .boolean (.int (bI b)) = .int (bI b) := by cases b <;> rfl
theorem bI_fit (b : Bool) : fits .boolean (.int (bI b)) = true := by cases b <;> rfl
theorem bI_0 {b : Bool} : bI b = 0 ↔ b = false := by cases b <;> decide
theorem bI_1 {b : Bool} : bI b = 1 ↔ b = true := by cases b <;> decide
theorem z_nar0 : narrow .boolean (.int 0) = .int 0 := rfl
theorem z_nar1 : narrow .boolean (.int 1) = .int 1 := rfl
section QL
variable {p : Program} {l : Launch} {e : Env} {R : Room} {s : State} {m : MethodId} {args : Array Value} {below : List Frame} {meth : Method} {c : Code} {H : Heap} {locs : List Loc} {cells slots : Nat} {Q : State → Prop}
variable {cc : ByteArray} {pc : Nat} {ls : Array Slot} {rest : List Value}
theorem q_cl_eq (hexec : p.tables.exec = Jvm.exec) (hb : c.code = cc) {x y : Int64} {off : Int} {tgt : Nat} (d1 : decode cc pc = .ok (.lcmp, 1)) (d2 : decode cc (pc + 1) = .ok (.ifCond .eq off, 3)) (ht : ((pc + 1 : Nat) : Int) + off = (tgt : Int))
    (kt : x = y → W p l e R s m args below meth c H locs cells slots Q (F0 m tgt ls rest)) (kf : ¬ x = y → W p l e R s m args below meth c H locs cells slots Q (F0 m (pc + 1 + 3) ls rest)) : W p l e R s m args below meth c H locs cells slots Q (F0 m pc ls (.long y :: .long x :: rest)) :=
  W.lcmp hexec hb d1 (lv_if_eq hexec hb d2 ht (fun h => kt ((lg_cmp_eq x y).mp h)) (fun h => kf (fun q => h ((lg_cmp_eq x y).mpr q))))
theorem q_cl_ne (hexec : p.tables.exec = Jvm.exec) (hb : c.code = cc) {x y : Int64} {off : Int} {tgt : Nat} (d1 : decode cc pc = .ok (.lcmp, 1)) (d2 : decode cc (pc + 1) = .ok (.ifCond .ne off, 3)) (ht : ((pc + 1 : Nat) : Int) + off = (tgt : Int))
    (kt : ¬ x = y → W p l e R s m args below meth c H locs cells slots Q (F0 m tgt ls rest)) (kf : x = y → W p l e R s m args below meth c H locs cells slots Q (F0 m (pc + 1 + 3) ls rest)) : W p l e R s m args below meth c H locs cells slots Q (F0 m pc ls (.long y :: .long x :: rest)) :=
  W.lcmp hexec hb d1 (lv_if_ne hexec hb d2 ht (fun h => kt (fun q => h ((lg_cmp_eq x y).mpr q))) (fun h => kf ((lg_cmp_eq x y).mp h)))
theorem q_cl_lt (hexec : p.tables.exec = Jvm.exec) (hb : c.code = cc) {x y : Int64} {off : Int} {tgt : Nat} (d1 : decode cc pc = .ok (.lcmp, 1)) (d2 : decode cc (pc + 1) = .ok (.ifCond .lt off, 3)) (ht : ((pc + 1 : Nat) : Int) + off = (tgt : Int))
    (kt : x < y → W p l e R s m args below meth c H locs cells slots Q (F0 m tgt ls rest)) (kf : ¬ x < y → W p l e R s m args below meth c H locs cells slots Q (F0 m (pc + 1 + 3) ls rest)) : W p l e R s m args below meth c H locs cells slots Q (F0 m pc ls (.long y :: .long x :: rest)) :=
  W.lcmp hexec hb d1 (lv_if_lt hexec hb d2 ht (fun h => kt ((lg_cmp_lt x y).mp h)) (fun h => kf (fun q => h ((lg_cmp_lt x y).mpr q))))
theorem q_cl_ge (hexec : p.tables.exec = Jvm.exec) (hb : c.code = cc) {x y : Int64} {off : Int} {tgt : Nat} (d1 : decode cc pc = .ok (.lcmp, 1)) (d2 : decode cc (pc + 1) = .ok (.ifCond .ge off, 3)) (ht : ((pc + 1 : Nat) : Int) + off = (tgt : Int))
    (kt : ¬ x < y → W p l e R s m args below meth c H locs cells slots Q (F0 m tgt ls rest)) (kf : x < y → W p l e R s m args below meth c H locs cells slots Q (F0 m (pc + 1 + 3) ls rest)) : W p l e R s m args below meth c H locs cells slots Q (F0 m pc ls (.long y :: .long x :: rest)) :=
  W.lcmp hexec hb d1 (lv_if_ge hexec hb d2 ht (fun h => kt (Int64.not_lt.mpr ((lg_cmp_ge x y).mp h))) (fun h => kf (Int64.not_le.mp (fun q => h ((lg_cmp_ge x y).mpr q)))))
theorem q_cl_gt (hexec : p.tables.exec = Jvm.exec) (hb : c.code = cc) {x y : Int64} {off : Int} {tgt : Nat} (d1 : decode cc pc = .ok (.lcmp, 1)) (d2 : decode cc (pc + 1) = .ok (.ifCond .gt off, 3)) (ht : ((pc + 1 : Nat) : Int) + off = (tgt : Int))
    (kt : y < x → W p l e R s m args below meth c H locs cells slots Q (F0 m tgt ls rest)) (kf : ¬ y < x → W p l e R s m args below meth c H locs cells slots Q (F0 m (pc + 1 + 3) ls rest)) : W p l e R s m args below meth c H locs cells slots Q (F0 m pc ls (.long y :: .long x :: rest)) :=
  W.lcmp hexec hb d1 (lv_if_gt hexec hb d2 ht (fun h => kt ((lg_cmp_gt x y).mp h)) (fun h => kf (fun q => h ((lg_cmp_gt x y).mpr q))))
theorem q_cl_le (hexec : p.tables.exec = Jvm.exec) (hb : c.code = cc) {x y : Int64} {off : Int} {tgt : Nat} (d1 : decode cc pc = .ok (.lcmp, 1)) (d2 : decode cc (pc + 1) = .ok (.ifCond .le off, 3)) (ht : ((pc + 1 : Nat) : Int) + off = (tgt : Int))
    (kt : ¬ y < x → W p l e R s m args below meth c H locs cells slots Q (F0 m tgt ls rest)) (kf : y < x → W p l e R s m args below meth c H locs cells slots Q (F0 m (pc + 1 + 3) ls rest)) : W p l e R s m args below meth c H locs cells slots Q (F0 m pc ls (.long y :: .long x :: rest)) :=
  W.lcmp hexec hb d1 (lv_if_le hexec hb d2 ht (fun h => kt (Int64.not_lt.mpr ((lg_cmp_le x y).mp h))) (fun h => kf (Int64.not_le.mp (fun q => h ((lg_cmp_le x y).mpr q)))))
end QL
/-! what stays: the kinds, the nest's links, the texts, the two tables, what a throw reads -/
abbrev kNm : List String := ["ZERO", "DENORMAL", "UNNORMAL", "NORMAL", "INFINITE", "NO_NUMBER"]
abbrev kDs : String := "LRealSteps$Kind;"
abbrev kFl : List (String × String × String × List Int32) := [("RealSteps$Kind", "examined", "I", [8, 12, 0, 4, 5, 1])]
abbrev xIOB : String := "java/lang/IndexOutOfBoundsException"
abbrev xIAE : String := "java/lang/IllegalArgumentException"
abbrev xNm : List String := ["java/lang/RuntimeException", "java/lang/Exception"]
def nestW : List Cond := [.methodLinkNest RX2 112 yX1_isOf RX2, .methodLinkNest RX2 130 yX1_kind RX2, .methodLinkNest RX2 137 yX1_isNegative RX2, .methodLinkNest RX2 219 yX1_exponent RX2, .methodLinkNest RX2 222 yX1_unit RX2, .methodLinkNest RX2 229 yX1_normalised RX2, .methodLinkNest RX2 247 yX1_side RX2, .methodLinkNest RX2 52 yX1_init RX2, .methodLinkNest RX2 96 yX1_isNought RX2, .fieldLinkNest RX2 134 "RealSteps$Kind" "examined" "I" RX2, .fieldLinkNest RX2 147 "RealSteps$Real" "top" "I" RX2, .fieldLinkNest RX2 150 "RealSteps$Real" "fraction" "J" RX2]
def castW : List Cond := [.castable xIOB xIOB, .castable xIAE xIAE]
def strW : List (Nat × String) := [(140, "0 to 3 can be asked"), (144, "there is no such register"), (37, "the control has 16 bits"), (46, "sign and power have 16 bits"), (59, "a real has the parts 0 to 2"), (69, "there is no such constant"), (94, "power and fraction go into two registers")]
def kTp : Nat → Value := fun j => .int (([0, 16383, 16384, 16383, 16384, 16381, 16382] : List Int32).getD j 0)
def kFr : Nat → Value := fun j => .long (([0, -9223372036854775808, -3127054724296373506, -5140230975865229124, -3958705157555305931, -7340697496662837351, -5660435428506895956] : List Int64).getD j 0)
def EE (ad : Nat → Nat) (A : Nat → Prop) (U : State) (H : Heap) : Prop :=
  va_En RX0 kDs kNm kFl ad A U H ∧ (∀ w ∈ nestW, va_Nw w U) ∧ (∀ w ∈ castW, va_Nw w U) ∧ (∀ q ∈ strW, ∃ sa, vk_R RX2 q.1 q.2 sa U) ∧
  vx_Zq Bundle.tN "UNASSIGNED_STACK" Bundle.steD A U H ∧ vx_Zq Bundle.tN "SUPPRESSED_SENTINEL" Bundle.listD A U H ∧
  (∃ t, va_Z RX2 "CONSTANT_TOPS" "[I" (.ref t) A U H ∧ va_T .int t 7 kTp A U H) ∧ (∃ t, va_Z RX2 "CONSTANT_FRACTIONS" "[J" (.ref t) A U H ∧ va_T .long t 7 kFr A U H) ∧
  va_Nc xIAE xIOB U ∧ va_Nc xIOB xIAE U
theorem nestW_warm {s U : State} (hW : s.WarmedH U.vm) (h : ∀ w ∈ nestW, va_Nw w s) : ∀ w ∈ nestW, va_Nw w U := by
  simp only [nestW, List.forall_mem_cons] at h ⊢
  obtain ⟨h1, h2, h3, h4, h5, h6, h7, h8, h9, g1, g2, g3, -⟩ := h
  exact ⟨h1.warmM hW, h2.warmM hW, h3.warmM hW, h4.warmM hW, h5.warmM hW, h6.warmM hW, h7.warmM hW, h8.warmM hW, h9.warmM hW, g1.warmF hW, g2.warmF hW, g3.warmF hW, fun _ h => absurd h List.not_mem_nil⟩
theorem castW_warm {s U : State} (hW : s.WarmedH U.vm) (h : ∀ w ∈ castW, va_Nw w s) : ∀ w ∈ castW, va_Nw w U := by
  simp only [castW, List.forall_mem_cons] at h ⊢
  obtain ⟨h1, h2, -⟩ := h
  exact ⟨h1.warmC hW, h2.warmC hW, fun _ h => absurd h List.not_mem_nil⟩
theorem nestW_same {s U : State} (hW : s.vm = U.vm) (h : ∀ w ∈ nestW, va_Nw w s) : ∀ w ∈ nestW, va_Nw w U := by
  simp only [nestW, List.forall_mem_cons] at h ⊢
  obtain ⟨h1, h2, h3, h4, h5, h6, h7, h8, h9, g1, g2, g3, -⟩ := h
  exact ⟨h1.same rfl hW, h2.same rfl hW, h3.same rfl hW, h4.same rfl hW, h5.same rfl hW, h6.same rfl hW, h7.same rfl hW, h8.same rfl hW, h9.same rfl hW, g1.same rfl hW, g2.same rfl hW, g3.same rfl hW, fun _ h => absurd h List.not_mem_nil⟩
theorem castW_same {s U : State} (hW : s.vm = U.vm) (h : ∀ w ∈ castW, va_Nw w s) : ∀ w ∈ castW, va_Nw w U := by
  simp only [castW, List.forall_mem_cons] at h ⊢
  obtain ⟨h1, h2, -⟩ := h
  exact ⟨h1.same rfl hW, h2.same rfl hW, fun _ h => absurd h List.not_mem_nil⟩
theorem EE.go {ad : Nat → Nat} {A B : Nat → Prop} {s U : State} {H : Heap} {locs : List Loc} (h : EE ad A s s.heap) (hS : va_S A s.heap H locs) (hB : ∀ q, B q → A q) (hU : U.heap = H) (hW : s.WarmedH U.vm) : EE ad B U U.heap := by
  obtain ⟨h1, h2, h3, h4, h5, h6, ⟨t1, h7, h8⟩, ⟨t2, h9, h10⟩, h11, h12⟩ := h
  rw [hU]
  have k := hS.2.1
  exact ⟨((h1.kept k).narrow hB).moved hW.alike, nestW_warm hW h2, castW_warm hW h3, fun q hq => (h4 q hq).elim fun sa z => ⟨sa, z.warm hW⟩,
    ((h5.kept k).narrow hB).moved hW.alike, ((h6.kept k).narrow hB).moved hW.alike, ⟨t1, ((h7.kept k).narrow hB).moved hW.alike, ((h8.kept k).narrow hB).moved hW.alike⟩, ⟨t2, ((h9.kept k).narrow hB).moved hW.alike, ((h10.kept k).narrow hB).moved hW.alike⟩, h11.moved hW.alike, h12.moved hW.alike⟩
theorem EE.blind {ad : Nat → Nat} {A : Nat → Prop} {a : Array Value} {U : State} {g : JFrame} {mk : MethodId} (h : EE ad A U U.heap) : EE ad A (U.calling g mk a) (U.calling g mk a).heap := by
  obtain ⟨h1, h2, h3, h4, h5, h6, ⟨t1, h7, h8⟩, ⟨t2, h9, h10⟩, h11, h12⟩ := h
  have k : U.vm.Alike (U.calling g mk a).vm := Vm.Alike.refl U.vm
  exact ⟨h1.moved k, nestW_same (show U.vm = (U.calling g mk a).vm from rfl) h2, castW_same (show U.vm = (U.calling g mk a).vm from rfl) h3, fun q hq => (h4 q hq).elim fun sa z => ⟨sa, z.same rfl⟩, h5.moved k, h6.moved k, ⟨t1, h7.moved k, h8.moved k⟩, ⟨t2, h9.moved k, h10.moved k⟩, h11.moved k, h12.moved k⟩
/-! worlds that are only read -/
def PB (D : va_G) (tys : List (ClassId × FieldType)) (w : va_W) : State → Prop := fun U => va_P D vwCl w U.heap ∧ va_K D vwCl tys U
theorem PB.blind {D : va_G} {tys : List (ClassId × FieldType)} {w : va_W} {av : List Value} : FrameBlind (va_Pc av (PB D tys w)) := fun a U g mk q => ⟨q.1, q.2.1, va_K.moved (u := U) (U := U.calling g mk a) (Vm.Alike.refl U.vm) q.2.2⟩
theorem PB.pre {D : va_G} {tys : List (ClassId × FieldType)} {w : va_W} {av : List Value} {s : State} {H : Heap} (hK : va_K D vwCl tys s) (hP : va_P D vwCl w H) : ∀ U : State, U.heap = H → s.WarmedH U.vm → va_Pc av (PB D tys w) av.toArray U := fun U hU hW => ⟨rfl, by rw [hU]; exact hP, va_K.moved hW.alike hK⟩
def EB (D : va_G) (tys : List (ClassId × FieldType)) (ad : Nat → Nat) (w : va_W) : State → Prop := fun U => va_P D vwCl w U.heap ∧ va_K D vwCl tys U ∧ EE ad (fun _ => False) U U.heap
theorem EB.blind {D : va_G} {tys : List (ClassId × FieldType)} {ad : Nat → Nat} {w : va_W} {av : List Value} : FrameBlind (va_Pc av (EB D tys ad w)) := fun a U g mk q => ⟨q.1, q.2.1, va_K.moved (u := U) (U := U.calling g mk a) (Vm.Alike.refl U.vm) q.2.2.1, q.2.2.2.blind⟩
theorem EB.pre {D : va_G} {tys : List (ClassId × FieldType)} {ad : Nat → Nat} {w : va_W} {av : List Value} {s : State} {H : Heap} {A : Nat → Prop} {locs : List Loc} (hK : va_K D vwCl tys s) (hP : va_P D vwCl w H) (hE : EE ad A s s.heap) (hS : va_S A s.heap H locs) : ∀ U : State, U.heap = H → s.WarmedH U.vm → va_Pc av (EB D tys ad w) av.toArray U := fun U hU hW => ⟨rfl, by rw [hU]; exact hP, va_K.moved hW.alike hK, hE.go hS (fun _ h => h.elim) hU hW⟩
theorem TB.blind {av : List Value} : FrameBlind (va_Pc av (fun _ => True)) := fun _ _ _ _ q => q
theorem TB.pre {av : List Value} {s : State} {H : Heap} : ∀ U : State, U.heap = H → s.WarmedH U.vm → va_Pc av (fun _ => True) av.toArray U := fun _ _ _ => ⟨rfl, trivial⟩
abbrev cReal (a : Nat) (t : Int32) (f : Int64) : Nat × va_E := (a, .inr (0, [.int t, .long f]))
/-! the system's own world: the object, its tops, its fractions -/
abbrev cRS (h q1 q2 : Nat) (cA cB : ClassId) (tf : Nat → Int32) (ff : Nat → Int64) (cw td : Int32) (an : Bool) (qb : Int32) (pa : Bool) : va_W := [(h, .inr (1, [.ref q1, .ref q2, .int cw, .int td, .int (bI an), .int qb, .int (bI pa)])), (q1, .inl (cA, 8, .inl tf)), (q2, .inl (cB, 8, .inr (.inl ff)))]
abbrev tRS (cA cB : ClassId) : List (ClassId × FieldType) := [(cA, .int), (cB, .long)]
abbrev cMd (h q1 q2 : Nat) (cA cB : ClassId) (cd ct : Int32) (tf : Nat → Int32) (ff : Nat → Int64) (td : Int32) (an : Bool) (qb : Int32) (pa : Bool) (aT : Int32) (aF dg : Int64) (fi : Int32) (lo : Bool) : va_W := [(h, .inr (2, [.int cd, .int ct, .ref q1, .ref q2, .int td, .int (bI an), .int qb, .int (bI pa), .int aT, .long aF, .long dg, .int fi, .int (bI lo)])), (q1, .inl (cA, 8, .inl tf)), (q2, .inl (cB, 8, .inr (.inl ff)))]
def ap3 (a h q1 q2 : Nat) : Prop := a ≠ h ∧ a ≠ q1 ∧ a ≠ q2
/-- a method that may change the world w (at h, q1, q2), and reads the reals rs -/
def MRB (D : va_G) (ad : Nat → Nat) (h q1 q2 : Nat) (tys : List (ClassId × FieldType)) (w rs : va_W) (sz : Nat) : State → Prop := fun U => U.heap.size = sz ∧ va_P D vwCl w U.heap ∧ va_K D vwCl tys U ∧ va_D (fun _ => True) w ∧ va_P D vwCl rs U.heap ∧ (∀ q ∈ rs, ap3 q.1 h q1 q2) ∧ EE ad (va_A w sz) U U.heap
theorem MRB.blind {D : va_G} {ad : Nat → Nat} {h q1 q2 sz : Nat} {tys : List (ClassId × FieldType)} {w rs : va_W} {av : List Value} : FrameBlind (va_Pc av (MRB D ad h q1 q2 tys w rs sz)) := fun a U g mk q => ⟨q.1, q.2.1, q.2.2.1, va_K.moved (u := U) (U := U.calling g mk a) (Vm.Alike.refl U.vm) q.2.2.2.1, q.2.2.2.2.1, q.2.2.2.2.2.1, q.2.2.2.2.2.2.1, q.2.2.2.2.2.2.2.blind⟩
theorem MRB.pre {D : va_G} {ad : Nat → Nat} {h q1 q2 : Nat} {tys : List (ClassId × FieldType)} {w rs : va_W} {av : List Value} {s : State} {H : Heap} {A : Nat → Prop} {locs : List Loc} (hK : va_K D vwCl tys s) (hP : va_P D vwCl w H) (hD : va_D A w) (hR : va_P D vwCl rs H) (hap : ∀ q ∈ rs, ap3 q.1 h q1 q2) (hE : EE ad A s s.heap) (hS : va_S A s.heap H locs) (hF : ∀ q, va_A w H.size q → A q) : ∀ U : State, U.heap = H → s.WarmedH U.vm → va_Pc av (MRB D ad h q1 q2 tys w rs H.size) av.toArray U := fun U hU hW => ⟨rfl, by rw [hU], by rw [hU]; exact hP, va_K.moved hW.alike hK, hD.weaken (fun _ _ _ _ => trivial), by rw [hU]; exact hR, hap, hE.go hS hF hU hW⟩
/-- a method that makes reals, and reads the reals rs -/
def SCB (D : va_G) (ad : Nat → Nat) (rs : va_W) (sz : Nat) : State → Prop := fun U => U.heap.size = sz ∧ va_K D vwCl [] U ∧ va_P D vwCl rs U.heap ∧ EE ad (va_A [] sz) U U.heap
theorem SCB.blind {D : va_G} {ad : Nat → Nat} {sz : Nat} {rs : va_W} {av : List Value} : FrameBlind (va_Pc av (SCB D ad rs sz)) := fun a U g mk q => ⟨q.1, q.2.1, va_K.moved (u := U) (U := U.calling g mk a) (Vm.Alike.refl U.vm) q.2.2.1, q.2.2.2.1, q.2.2.2.2.blind⟩
theorem SCB.pre {D : va_G} {ad : Nat → Nat} {tys : List (ClassId × FieldType)} {rs : va_W} {av : List Value} {s : State} {H : Heap} {A : Nat → Prop} {locs : List Loc} (hK : va_K D vwCl tys s) (hR : va_P D vwCl rs H) (hE : EE ad A s s.heap) (hS : va_S A s.heap H locs) (hF : ∀ q, va_A [] H.size q → A q) : ∀ U : State, U.heap = H → s.WarmedH U.vm → va_Pc av (SCB D ad rs H.size) av.toArray U := fun U hU hW => ⟨rfl, by rw [hU], va_K.moved hW.alike (hK.sub [] rfl), by rw [hU]; exact hR, hE.go hS hF hU hW⟩
theorem va_A_nil {sz q : Nat} (h : va_A [] sz q) : sz ≤ q := by
  rcases h with ⟨k, e, h⟩ | h
  · simp at h
  · exact h
theorem vP_nil {D : va_G} {H : Heap} : va_P D vwCl [] H := fun k q h => by simp at h
theorem vD_nil {A : Nat → Prop} : va_D A [] := ⟨fun i j p q h => by simp at h, fun k q h => by simp at h⟩
theorem vP_one {D : va_G} {a : Nat × va_E} {w : va_W} {H : Heap} (h1 : va_P D vwCl [a] H) (h2 : va_P D vwCl w H) : va_P D vwCl (a :: w) H := va_P.app h1 h2
/-- what is read stays: a part that the method may not write -/
theorem ro_now {D : va_G} {rs : va_W} {A : Nat → Prop} {H0 H : Heap} {locs : List Loc} (h : va_P D vwCl rs H0) (hA : ∀ q ∈ rs, ¬ A q.1) (hS : va_S A H0 H locs) : va_P D vwCl rs H := h.kept (fun k q hk => hS.2.1 q.1 (h k q hk).lt (hA q (List.mem_of_getElem? hk)))
theorem ap_nil {h q1 q2 : Nat} : ∀ q ∈ ([] : va_W), ap3 q.1 h q1 q2 := fun _ h => absurd h List.not_mem_nil
theorem ap_one {h q1 q2 : Nat} {a : Nat × va_E} {w : va_W} (h1 : ap3 a.1 h q1 q2) (h2 : ∀ q ∈ w, ap3 q.1 h q1 q2) : ∀ q ∈ a :: w, ap3 q.1 h q1 q2 := List.forall_mem_cons.mpr ⟨h1, h2⟩
/-- a real stays over a call that changes the three cells alone -/
theorem ro_keep {D : va_G} {a h q1 q2 : Nat} {e e1 e2 e3 : va_E} {H H1 : Heap} (hx : va_P D vwCl [(a, e)] H) (nx : ap3 a h q1 q2) (hk : ∀ q : Nat, q < H.size → ¬ va_A [(h, e1), (q1, e2), (q2, e3)] H.size q → H1[q]? = H[q]?) : va_P D vwCl [(a, e)] H1 := by
  refine hx.kept (fun k q hk1 => ?_)
  have hl := (hx k q hk1).lt
  have ha : q.1 = a := by
    match k, hk1 with
    | 0, hk1 => cases hk1; rfl
    | k + 1, hk1 => simp at hk1
  refine hk q.1 hl ?_
  rw [ha] at hl ⊢
  rintro (⟨k, e, h⟩ | h)
  · match k, h with
    | 0, h => cases h; exact nx.1 rfl
    | 1, h => cases h; exact nx.2.1 rfl
    | 2, h => cases h; exact nx.2.2 rfl
    | k + 3, h => simp at h
  · omega
/-- .. and over a call that only makes cells -/
theorem ro_make {D : va_G} {w : va_W} {H H1 : Heap} (hx : va_P D vwCl w H) (hk : ∀ q : Nat, q < H.size → ¬ va_A [] H.size q → H1[q]? = H[q]?) : va_P D vwCl w H1 :=
  hx.kept (fun k q hk1 => hk q.1 (hx k q hk1).lt (fun z => absurd (va_A_nil z) (Nat.not_le.mpr (hx k q hk1).lt)))
theorem ap_new {D : va_G} {h q1 q2 a : Nat} {e1 e2 e3 : va_E} {H : Heap} (hP : va_P D vwCl [(h, e1), (q1, e2), (q2, e3)] H) (ha : H.size ≤ a) : ap3 a h q1 q2 := by
  have h1 : h < H.size := (hP 0 _ rfl).lt
  have h2 : q1 < H.size := (hP 1 _ rfl).lt
  have h3 : q2 < H.size := (hP 2 _ rfl).lt
  exact ⟨by omega, by omega, by omega⟩
theorem ap_D {A : Nat → Prop} {h q1 q2 a : Nat} {e1 e2 e3 e4 : va_E} (hD : va_D A [(h, e1), (q1, e2), (q2, e3), (a, e4)]) : ap3 a h q1 q2 :=
  ⟨fun z => absurd (hD.1 3 0 _ _ rfl rfl z) (by decide), fun z => absurd (hD.1 3 1 _ _ rfl rfl z) (by decide), fun z => absurd (hD.1 3 2 _ _ rfl rfl z) (by decide)⟩
theorem rs_A {D : va_G} {h q1 q2 : Nat} {e1 e2 e3 : va_E} {rs : va_W} {H : Heap} (hR : va_P D vwCl rs H) (hap : ∀ q ∈ rs, ap3 q.1 h q1 q2) : ∀ q ∈ rs, ¬ va_A [(h, e1), (q1, e2), (q2, e3)] H.size q.1 := by
  intro q hq
  obtain ⟨k, hk⟩ := List.getElem?_of_mem hq
  have hl := (hR k q hk).lt
  have nx := hap q hq
  rintro (⟨k, e, h⟩ | h)
  · match k, h with
    | 0, h => exact nx.1 (congrArg Prod.fst (Option.some.inj h)).symm
    | 1, h => exact nx.2.1 (congrArg Prod.fst (Option.some.inj h)).symm
    | 2, h => exact nx.2.2 (congrArg Prod.fst (Option.some.inj h)).symm
    | k + 3, h => simp at h
  · omega
theorem rs_A0 {D : va_G} {rs : va_W} {H : Heap} (hR : va_P D vwCl rs H) : ∀ q ∈ rs, ¬ va_A [] H.size q.1 := by
  intro q hq
  obtain ⟨k, hk⟩ := List.getElem?_of_mem hq
  exact fun z => absurd (va_A_nil z) (Nat.not_le.mpr (hR k q hk).lt)
theorem va_cr {p : Program} {l : Launch} {e : Env} {R : Room} {s : State} {m : MethodId} {args : Array Value} {below : List Frame} {meth : Method} {c : Code} {H : Heap} {locs : List Loc} {cells slots mc ms : Nat} {g : JFrame} {rest : List Value} {Qa : State → Outcome → State → Prop} {free : Addr → Prop} (h : va_Run p l e R s m args below meth c H locs cells slots mc ms g rest Qa free) : CallRun p l e R s m args below meth c H locs cells slots mc ms g rest Qa free := by
  intro T hT X
  obtain ⟨v, st₀, t, T', L, h0, X', hL, e1, -, hq, st⟩ := h T hT X
  exact ⟨v, st₀, t, T', L, h0, X', hL, e1, hq, st⟩
def jlushr (x : Int64) (y : Int32) : Int64 := (x.toUInt64 >>> (y.toInt64.toUInt64 &&& Int64.toUInt64 63)).toInt64
def jlshl (x : Int64) (y : Int32) : Int64 := x <<< (y.toInt64 &&& 63)
def jlshr (x : Int64) (y : Int32) : Int64 := x >>> (y.toInt64 &&& 63)
def jiushr (x y : Int32) : Int32 := (x.toUInt32 >>> (y.toUInt32 &&& Int32.toUInt32 31)).toInt32
/-- the constructor of a real: its own new cell -/
def INB (D : va_G) (a : Nat) (sz : Nat) : State → Prop := fun U => U.heap.size = sz ∧ va_P D vwCl [cReal a 0 0] U.heap ∧ va_K D vwCl [] U ∧ va_D (fun _ => True) [cReal a 0 0]
theorem INB.blind {D : va_G} {a sz : Nat} {av : List Value} : FrameBlind (va_Pc av (INB D a sz)) := fun b U g mk q => ⟨q.1, q.2.1, q.2.2.1, va_K.moved (u := U) (U := U.calling g mk b) (Vm.Alike.refl U.vm) q.2.2.2.1, q.2.2.2.2⟩
theorem INB.pre {D : va_G} {a : Nat} {av : List Value} {s : State} {H : Heap} {A : Nat → Prop} (hK : va_K D vwCl [] s) (hP : va_P D vwCl [cReal a 0 0] H) (hD : va_D A [cReal a 0 0]) : ∀ U : State, U.heap = H → s.WarmedH U.vm → va_Pc av (INB D a H.size) av.toArray U := fun U hU hW => ⟨rfl, by rw [hU], by rw [hU]; exact hP, va_K.moved hW.alike hK, hD.weaken (fun _ _ _ _ => trivial)⟩
theorem ro_init {D : va_G} {a h q1 q2 : Nat} {e e1 e2 e3 : va_E} {H H1 : Heap} (hP : va_P D vwCl [(h, e1), (q1, e2), (q2, e3)] H) (nx : ap3 a h q1 q2) (hk : ∀ q : Nat, q < H.size → ¬ va_A [(a, e)] H.size q → H1[q]? = H[q]?) : va_P D vwCl [(h, e1), (q1, e2), (q2, e3)] H1 := by
  refine hP.kept (fun k q hk1 => ?_)
  have hl := (hP k q hk1).lt
  refine hk q.1 hl ?_
  rintro (⟨j, e9, hj⟩ | h9)
  · match j, hj with
    | 0, hj =>
      have ha : a = q.1 := congrArg Prod.fst (Option.some.inj hj)
      match k, hk1 with
      | 0, hk1 => cases hk1; exact nx.1 ha
      | 1, hk1 => cases hk1; exact nx.2.1 ha
      | 2, hk1 => cases hk1; exact nx.2.2 ha
      | k + 3, hk1 => simp at hk1
    | j + 1, hj => simp at hj
  · omega
/-- a method of the reference: its world alone -/
def MMB (D : va_G) (tys : List (ClassId × FieldType)) (w : va_W) (sz : Nat) : State → Prop := fun U => U.heap.size = sz ∧ va_P D vwCl w U.heap ∧ va_K D vwCl tys U ∧ va_D (fun _ => True) w
theorem MMB.blind {D : va_G} {sz : Nat} {tys : List (ClassId × FieldType)} {w : va_W} {av : List Value} : FrameBlind (va_Pc av (MMB D tys w sz)) := fun a U g mk q => ⟨q.1, q.2.1, q.2.2.1, va_K.moved (u := U) (U := U.calling g mk a) (Vm.Alike.refl U.vm) q.2.2.2.1, q.2.2.2.2⟩
theorem MMB.pre {D : va_G} {tys : List (ClassId × FieldType)} {w : va_W} {av : List Value} {s : State} {H : Heap} {A : Nat → Prop} (hK : va_K D vwCl tys s) (hP : va_P D vwCl w H) (hD : va_D A w) : ∀ U : State, U.heap = H → s.WarmedH U.vm → va_Pc av (MMB D tys w H.size) av.toArray U := fun U hU hW => ⟨rfl, by rw [hU], by rw [hU]; exact hP, va_K.moved hW.alike hK, hD.weaken (fun _ _ _ _ => trivial)⟩
section QC
variable {p : Program} {l : Launch} {e : Env} {R : Room} {s : State} {m : MethodId} {args : Array Value} {below : List Frame} {meth : Method} {c : Code} {H : Heap} {locs : List Loc} {cells slots : Nat} {Q : State → Prop} {pc pcJ : Nat} {ls : Array Slot} {st0 rest : List Value}
/-- a stretch that only computes one value -/
theorem q_cut {v : Int32} (body : (∀ w : Int32, w = v → W p l e R s m args below meth c H locs cells slots Q (F0 m pcJ ls (.int w :: rest))) → W p l e R s m args below meth c H locs cells slots Q (F0 m pc ls st0)) (k : W p l e R s m args below meth c H locs cells slots Q (F0 m pcJ ls (.int v :: rest))) : W p l e R s m args below meth c H locs cells slots Q (F0 m pc ls st0) := body (fun w e9 => by rw [e9]; exact k)
theorem q_cutL {v : Int64} (body : (∀ w : Int64, w = v → W p l e R s m args below meth c H locs cells slots Q (F0 m pcJ ls (.long w :: rest))) → W p l e R s m args below meth c H locs cells slots Q (F0 m pc ls st0)) (k : W p l e R s m args below meth c H locs cells slots Q (F0 m pcJ ls (.long v :: rest))) : W p l e R s m args below meth c H locs cells slots Q (F0 m pc ls st0) := body (fun w e9 => by rw [e9]; exact k)
end QC
/-- Real(t, f): the fields of its new cell -/
theorem kS_X1_init : yX1_init.cls ≠ "java/lang/invoke/MethodHandle" ∧ yX1_init.cls ≠ "java/lang/invoke/VarHandle" ∧ (parseMethodDescriptor yX1_init.desc).map (fun d => d.parameters.length) = some 2 := by decide +kernel
set_option maxHeartbeats 4000000 in
set_option maxRecDepth 100000 in
theorem c_X1_init (l : Launch) (D : va_G) (a : Nat) (t : Int32) (f : Int64) (sz : Nat) : Met l yX1_init wsX1_init ({ frames := 1, cells := 0, slots := 0, locals := 12 } : Room) (va_Pc [.ref a, .int t, .long f] (INB D a sz)) (va_Qv (fun _ : Unit => True) (fun _ t9 => va_P D vwCl [cReal a t f] t9.heap) (va_A [cReal a 0 0] sz)) 0 0 (va_A [cReal a 0 0] sz) := by
  refine Met.ofW (cc := cX1_init) (maxL := 4) (ret := none) (by decide) rfl ?_
  intro p e s m args below meth c s₁ B hml hv
  obtain ⟨rfl, hsz, hP, hK, hD0⟩ := hv
  have hx := B.exec
  have hb := B.bytes
  have hr := B.returns
  have hts := atoms_spec (ws := wsX1_init) B.pre
  have hown : s.vm.findClass RX1 = some m.cls := findClass_of_methodNamed B.named
  have hlocks := B.notSynchronized
  have hin : meth.name = "<init>" := (name_of_methodNamed B.named B.method).1
  have in_X1 : ∀ w ∈ wsX10, w ∈ wsX1_init := by decide +kernel
  have w_1 := hts (.methodLink RX1 3 objectInit) (by decide +kernel)
  have w_2 := hts (.instanceMethod objectInit) (by decide +kernel)
  have w_3 := hts (.code objectInit ⟨#[0xb1]⟩ 1 none) (by decide +kernel)
  have w_4 := hts (.fieldLink RX1 9 "RealSteps$Real" "top" "I") (by decide +kernel)
  have w_5 := hts (.fieldLink RX1 15 "RealSteps$Real" "fraction" "J") (by decide +kernel)
  subst hsz
  have hD := hD0.self (sz := s.heap.size)
  generalize hAe : va_A ([cReal a 0 0]) s.heap.size = A at hD ⊢
  have hS : va_S A s.heap s.heap [] := va_S.rf
  have hl := lv_entry ([.ref a, .int t, .long f]) (n := 4) (Nat.le_of_ble_eq_true rfl)
  rw [lg_entry_eq]
  generalize (lg_sl ([.ref a, .int t, .long f]) ++ List.replicate (4 - (lg_sl ([.ref a, .int t, .long f])).length) Slot.unset).toArray = ls at hl ⊢
  have hl : lv_has ls 4 [(0, .ref a), (1, .int t), (2, .long f)] := hl
  refine lv_aload_n hx hb dX1_init_0 rfl (lv_at hl 0 rfl) ?_
  refine W.objInit hx hb hown w_1 w_2 w_3 rfl (by rw [hml]; exact hl.1) rfl dX1_init_1 (Nat.le_of_ble_eq_true rfl) (Nat.le_of_ble_eq_true rfl) ?_
  refine W.eq (g2 := F0 m 4 ls []) rfl ?_
  refine lv_aload_n hx hb dX1_init_4 rfl (lv_at hl 0 rfl) ?_
  refine lv_iload_n hx hb dX1_init_5 rfl (lv_at hl 1 rfl) ?_
  refine va_putF (v := .int t) (ty := .int) (C := RX1) (T := TX1) (N := 2) hx hb hts in_X1 tyX1 tyX1_ok nmX1 hown hK hP hD hS 0 rfl rfl 0 (by decide) w_4 (fun _ h9 => h9) rfl hin rfl (tyX1_ok 0 (by decide)) rfl rfl (Nat.le_of_ble_eq_true rfl) dX1_init_6 (fun H locs hP hD hS => ?_)
  have hP : va_P D vwCl [cReal a t 0] H := hP
  have hD : va_D A [cReal a t 0] := hD
  refine lv_aload_n hx hb dX1_init_9 rfl (lv_at hl 0 rfl) ?_
  refine lv_lload_n hx hb dX1_init_10 rfl (lv_at hl 2 rfl) ?_
  refine va_putF (v := .long f) (ty := .long) (C := RX1) (T := TX1) (N := 2) hx hb hts in_X1 tyX1 tyX1_ok nmX1 hown hK hP hD hS 0 rfl rfl 1 (by decide) w_5 (fun _ h9 => h9) rfl hin rfl (tyX1_ok 1 (by decide)) rfl rfl (Nat.le_of_ble_eq_true rfl) dX1_init_11 (fun H locs hP hD hS => ?_)
  have hP : va_P D vwCl [cReal a t f] H := hP
  exact W.vret hx hb hr (fun t9 ht hW => ⟨⟨(), rfl, trivial, by show va_P D vwCl [cReal a t f] t9.heap; rw [ht]; exact hP⟩, hS.F ht⟩) hS.2.2 dX1_init_14
theorem sw_out_1_3 {x : Int32} (h1 : ¬ x = 1) (h2 : ¬ x = 2) (h3 : ¬ x = 3) : x.toInt < 1 ∨ 3 < x.toInt := by
  have e1 : ¬ x.toInt = 1 := lv_neT h1 rfl
  have e2 : ¬ x.toInt = 2 := lv_neT h2 rfl
  have e3 : ¬ x.toInt = 3 := lv_neT h3 rfl
  omega
theorem sw_out_0_2 {x : Int32} (h0 : ¬ x = 0) (h1 : ¬ x = 1) (h2 : ¬ x = 2) : x.toInt < 0 ∨ 2 < x.toInt := by
  have e0 : ¬ x.toInt = 0 := lv_neT h0 rfl
  have e1 : ¬ x.toInt = 1 := lv_neT h1 rfl
  have e2 : ¬ x.toInt = 2 := lv_neT h2 rfl
  omega
theorem sw_out_0_3 {x : Int32} (h0 : ¬ x = 0) (h1 : ¬ x = 1) (h2 : ¬ x = 2) (h3 : ¬ x = 3) : x.toInt < 0 ∨ 3 < x.toInt := by
  have e0 : ¬ x.toInt = 0 := lv_neT h0 rfl
  have e1 : ¬ x.toInt = 1 := lv_neT h1 rfl
  have e2 : ¬ x.toInt = 2 := lv_neT h2 rfl
  have e3 : ¬ x.toInt = 3 := lv_neT h3 rfl
  omega
theorem sw_out_0_12 {x : Int32} (h0 : ¬ x = 0) (h1 : ¬ x = 1) (h2 : ¬ x = 2) (h3 : ¬ x = 3) (h4 : ¬ x = 4) (h5 : ¬ x = 5) (h6 : ¬ x = 6) (h7 : ¬ x = 7) (h8 : ¬ x = 8) (h9 : ¬ x = 9) (h10 : ¬ x = 10) (h11 : ¬ x = 11) (h12 : ¬ x = 12) : x.toInt < 0 ∨ 12 < x.toInt := by
  have e0 : ¬ x.toInt = 0 := lv_neT h0 rfl
  have e1 : ¬ x.toInt = 1 := lv_neT h1 rfl
  have e2 : ¬ x.toInt = 2 := lv_neT h2 rfl
  have e3 : ¬ x.toInt = 3 := lv_neT h3 rfl
  have e4 : ¬ x.toInt = 4 := lv_neT h4 rfl
  have e5 : ¬ x.toInt = 5 := lv_neT h5 rfl
  have e6 : ¬ x.toInt = 6 := lv_neT h6 rfl
  have e7 : ¬ x.toInt = 7 := lv_neT h7 rfl
  have e8 : ¬ x.toInt = 8 := lv_neT h8 rfl
  have e9 : ¬ x.toInt = 9 := lv_neT h9 rfl
  have e10 : ¬ x.toInt = 10 := lv_neT h10 rfl
  have e11 : ¬ x.toInt = 11 := lv_neT h11 rfl
  have e12 : ¬ x.toInt = 12 := lv_neT h12 rfl
  omega
