theorem flags_off {l : Launch} (h : l.flags = flags0) : l.stackTraces = false := by
  unfold Launch.stackTraces
  rw [h]
  decide +kernel
set_option maxHeartbeats 4000000 in
set_option maxRecDepth 100000 in
/-- from the entry to the loop -/
theorem whole_open (hs : SIMS) {p : Program} {e : Env} {s : State} {m : MethodId} {below : List Frame} {meth : Method} {c : Code} (l : Launch) (hflags : l.flags = flags0) {b L : Nat} {xs : Nat → Int32} (hL : L ≤ 2560) (C0 : lw_At p s m meth c b L xs) : W p l e room_1 s m #[Value.ref b] below meth c s.heap [] 0 0 (lw_Z below #[Value.ref b] s) (entryFrame m ([Value.ref b] : List Value).toArray 7) := by
  obtain ⟨hx, hb, hr, hml, hown, htsT, hX, hbl, hlocks, hgv⟩ := id C0
  have hts : ∀ w ∈ wsL_law, w.before #[Value.ref b] s = true := fun w hw => htsT w (wsL_law_in w hw)
  have hA0 : ∀ a : Nat, a < s.heap.size → ¬ (fun q : Nat => s.heap.size ≤ q) a := fun a h => Nat.not_le.mpr h
  obtain ⟨ad, hE⟩ := EE_start htsT hgv hA0
  have hDW := DW_start htsT
  have hl9 := flags_off hflags
  have hb : c.code = cL_law := hb
  have hA : ∀ q : Nat, s.heap.size ≤ q → (fun q : Nat => s.heap.size ≤ q) q := fun _ h => h
  have C1 : LC p l s m meth c b L xs ad := ⟨hx, hb, hr, hml, hown, hts, hX, hbl, hlocks, hE, hDW, hl9, hL⟩
  obtain ⟨c0, iS0, hKn0⟩ := u_known (C := RX1) (T := TX1) (N := 2) (n := 2) htsT inX1 (htsT (.instantiable RX1 2) (by decide +kernel))
  obtain ⟨c1, iS1, hKn1⟩ := u_known (C := RX2) (T := TX2) (N := 7) (n := 7) htsT inX2 (htsT (.instantiable RX2 7) (by decide +kernel))
  obtain ⟨c2, iS2, hKn2⟩ := u_known (C := RX3) (T := TX3) (N := 13) (n := 13) htsT inX3 (htsT (.instantiable RX3 13) (by decide +kernel))
  obtain ⟨D, hKc⟩ : ∃ D : va_G, ∀ (k : Nat) (q : vw_C), vwCl[k]? = some q → u_Kn s q.1 q.2.1 q.2.2 (D.1 k) (D.2 k) := by
    refine ⟨(fun k => if k = 0 then c0 else if k = 1 then c1 else c2, fun k => if k = 0 then iS0 else if k = 1 then iS1 else iS2), ?_⟩
    intro k q hq
    match k, hq with
    | 0, hq => cases hq; exact hKn0
    | 1, hq => cases hq; exact hKn1
    | 2, hq => cases hq; exact hKn2
    | k + 3, hq => simp at hq
  have hS : va_S (fun q : Nat => s.heap.size ≤ q) s.heap s.heap [] := va_S.rf
  have hK : va_K D vwCl [] s := ⟨hKc, fun k q h => by simp at h⟩
  have hP : va_P D vwCl [] s.heap := vP_nil
  have hD : va_D (fun q : Nat => s.heap.size ≤ q) [] := vD_nil
  have hl := lv_entry ([.ref b]) (n := 7) (Nat.le_of_ble_eq_true rfl)
  rw [lg_entry_eq]
  generalize (lg_sl ([.ref b]) ++ List.replicate (7 - (lg_sl ([.ref b])).length) Slot.unset).toArray = ls at hl ⊢
  have hl : lv_has ls 7 [(0, .ref b)] := hl
  refine va_new (ci := 1) (fs := f2_0) (C := RX2) (T := TX2) (N := 7) hx hb hts inlX2 tyX2 tyX2_ok hown (hts (.classLink RL 8 RX2) (by decide +kernel)) (hts (.instantiable RX2 7) (by decide +kernel)) (hts (.initialized RX2) (by decide +kernel)) hK hP hD hS hA rfl (fun j hj => by rcases (show j = 0 ∨ j = 1 ∨ j = 2 ∨ j = 3 ∨ j = 4 ∨ j = 5 ∨ j = 6 by omega) with rfl | rfl | rfl | rfl | rfl | rfl | rfl <;> rfl) (Nat.le_of_ble_eq_true rfl) (Nat.le_of_ble_eq_true rfl) dL_law_0 (fun h H hP hD hS => ?_)
  have hP : va_P D vwCl [(h, .inr (1, f2_0))] H := hP
  have hD : va_D (fun q : Nat => s.heap.size ≤ q) [(h, .inr (1, f2_0))] := hD
  refine lv_dup hx hb dL_law_3 rfl ?_
  have hFc := va_free (wc := [(h, .inr (1, f2_0))]) hD hS hA [0] rfl
  refine va_callv (va_runI (As := []) (rest := [.ref h]) ⟨hx, hb, hml, hown, hts⟩ (c_X2_init l D h H.size) (cwI 0 hts gL_law_X2_init rfl rfl rfl (hts (.initialized RX2) (by decide +kernel)) (hts (.methodLink RL 59 yX2_init) (by decide +kernel)) (hts (.instanceMethod yX2_init) (by decide +kernel)) rfl kS_X2_init ⟨Nat.le_of_ble_eq_true rfl, Nat.le_of_ble_eq_true rfl⟩) ⟨INX.blind, INX.pre hK hP hD⟩ rfl rfl hl.1 rfl (lv_room (Nat.le_of_ble_eq_true rfl)) dL_law_4 ⟨Nat.le_of_ble_eq_true rfl, Nat.le_of_ble_eq_true rfl⟩) hS (fun q _ h => hFc q h) hFc (fun u t H1 locs ht hvm hw hB hz1 hk1 hS => ?_)
  obtain ⟨q1, q2, cA, cB, hK1, hP1, hD1⟩ := hB
  rw [ht] at hP1
  have hK1 : va_K D vwCl (tRS cA cB) s := va_K.moved hvm.symm hK1
  obtain ⟨hP, hD⟩ := va_join (wr := []) (w1 := cRS h q1 q2 cA cB z0I z0J 1023 0 false 0 false) hP hD [0] [] rfl rfl (by decide) (by decide) hk1 hFc hP1 hD1
  have hP : va_P D vwCl (cRS h q1 q2 cA cB z0I z0J 1023 0 false 0 false) H1 := hP
  have hD : va_D (fun q : Nat => s.heap.size ≤ q) (cRS h q1 q2 cA cB z0I z0J 1023 0 false 0 false) := hD
  refine lv_astore_n (lv' := [(1, .ref h), (0, .ref b)]) hx hb dL_law_7 rfl hl (by decide) rfl (fun ls hl => ?_)
  refine va_new (ci := 2) (fs := f3_0) (C := RX3) (T := TX3) (N := 13) hx hb hts inlX3 tyX3 tyX3_ok hown (hts (.classLink RL 60 RX3) (by decide +kernel)) (hts (.instantiable RX3 13) (by decide +kernel)) (hts (.initialized RX3) (by decide +kernel)) hK1 hP hD hS hA rfl (fun j hj => by rcases (show j = 0 ∨ j = 1 ∨ j = 2 ∨ j = 3 ∨ j = 4 ∨ j = 5 ∨ j = 6 ∨ j = 7 ∨ j = 8 ∨ j = 9 ∨ j = 10 ∨ j = 11 ∨ j = 12 by omega) with rfl | rfl | rfl | rfl | rfl | rfl | rfl | rfl | rfl | rfl | rfl | rfl | rfl <;> rfl) (Nat.le_of_ble_eq_true rfl) (Nat.le_of_ble_eq_true rfl) dL_law_8 (fun g H hP4 hD4 hS => ?_)
  refine lv_dup hx hb dL_law_11 rfl ?_
  have hFd := va_free (wc := [(g, .inr (2, f3_0))]) hD4 hS hA [3] rfl
  refine va_callv (va_runI (As := []) (rest := [.ref g]) ⟨hx, hb, hml, hown, hts⟩ (c_X3_init l D g H.size) (cwI 0 hts gL_law_X3_init rfl rfl rfl (hts (.initialized RX3) (by decide +kernel)) (hts (.methodLink RL 62 yX3_init) (by decide +kernel)) (hts (.instanceMethod yX3_init) (by decide +kernel)) rfl kS_X3_init ⟨Nat.le_of_ble_eq_true rfl, Nat.le_of_ble_eq_true rfl⟩) ⟨INX.blind, INX.pre (hK1.sub [] rfl) (hP4.sub [3] rfl) (hD4.sub [3] (by decide) rfl)⟩ rfl rfl hl.1 rfl (lv_room (Nat.le_of_ble_eq_true rfl)) dL_law_12 ⟨Nat.le_of_ble_eq_true rfl, Nat.le_of_ble_eq_true rfl⟩) hS (fun q _ h => hFd q h) hFd (fun u t H2 locs ht hvm hw hB hz1 hk1 hS => ?_)
  obtain ⟨r1, r2, dA, dB, hK2, hP2, hD2⟩ := hB
  rw [ht] at hP2
  have hK2 : va_K D vwCl (tRS dA dB) s := va_K.moved hvm.symm hK2
  obtain ⟨hP, hD⟩ := va_join (wr := cRS h q1 q2 cA cB z0I z0J 1023 0 false 0 false) (w1 := cMd g r1 r2 dA dB 0 1023 z0I z0J 0 false 0 false 0 0 0 0 false) hP4 hD4 [3] [0, 1, 2] rfl rfl (by decide) (by decide) hk1 hFd hP2 hD2
  have hK := hK1.app hK2
  refine lv_astore_n (lv' := [(2, .ref g), (1, .ref h), (0, .ref b)]) hx hb dL_law_15 rfl hl (by decide) rfl (fun ls hl => ?_)
  refine lv_iconst (v := 1) hx hb dL_law_16 (by decide) ?_
  refine va_newa (atype := .long) (ty := .long) (N' := 1) (a0 := (1, .inr (.inl z0J))) hx hb (hts (.arrayClass .long) (by decide +kernel)) rfl hK hP hD hS hA (fun _ => rfl) (by decide) (by decide) (by decide) (Nat.le_of_ble_eq_true rfl) (Nat.le_of_ble_eq_true rfl) dL_law_17 (fun o cC H hK hP hD hS => ?_)
  have hK : va_K D vwCl (tW cA cB cC dA dB) s := hK.sub [0, 1, 4, 2, 3] rfl
  have hP : va_P D vwCl (wW h q1 q2 cA cB z0I z0J 1023 0 false 0 false o cC z0J g r1 r2 dA dB 0 1023 z0I z0J 0 false 0 false 0 0 0 0 false) H := hP.sub [0, 1, 2, 6, 3, 4, 5] rfl
  have hD : va_D (fun q : Nat => s.heap.size ≤ q) (wW h q1 q2 cA cB z0I z0J 1023 0 false 0 false o cC z0J g r1 r2 dA dB 0 1023 z0I z0J 0 false 0 false 0 0 0 0 false) := hD.sub [0, 1, 2, 6, 3, 4, 5] (by decide) rfl
  refine lv_astore_n (lv' := [(3, .ref o), (2, .ref g), (1, .ref h), (0, .ref b)]) hx hb dL_law_19 rfl hl (by decide) rfl (fun ls hl => ?_)
  refine lv_iconst (v := 0) hx hb dL_law_20 (by decide) ?_
  refine lv_istore (lv' := [(4, .int 0), (3, .ref o), (2, .ref g), (1, .ref h), (0, .ref b)]) hx hb dL_law_21 hl (by decide) rfl (fun ls hl => ?_)
  refine W.widen (k := 7 + 6 * 0) (n := 53 + 24 * 0) (by decide) (by decide) ?_
  have z9 : 0 ≤ (0 : Int32).toInt ∧ (0 : Int32).toInt ≤ 65535 := by decide
  exact law_loop hs C1 hK 513 0 rfl 0 _ _ _ _ _ _ _ _ _ _ _ _ _ _ _ _ _ _ _ _ _ _ _ _ rfl (by decide) ⟨rfl, rfl, rfl, rfl, rfl, fun j _ => ⟨rfl, rfl, z9.1, z9.2⟩, by decide, by decide⟩ hP hD hS hl
