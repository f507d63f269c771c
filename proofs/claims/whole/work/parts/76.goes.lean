/-! what a step looks at first -/
theorem isOf_t {t : Int32} {f : Int64} {k : Nat} (h : R_kind t f = k) : R_isOf t f k = true := by unfold R_isOf; rw [if_pos h]
theorem isOf_f {t : Int32} {f : Int64} {k : Nat} (h : ¬ R_kind t f = k) : R_isOf t f k = false := by unfold R_isOf; rw [if_neg h]
theorem kindI {t : Int32} (h1 : 0 ≤ t.toInt) (h2 : t.toInt ≤ 65535) (f : Int64) {k : Nat} {K : Int32} (hK : K = nI k) (hk : k < 100) : M_kind t f = K ↔ R_kind t f = k := by
  have := R_kind_lt t f
  rw [kind_eq h1 h2, hK]
  exact nI_eq (by omega) (by omega)
theorem kind5_top {t : Int32} (h1 : 0 ≤ t.toInt) (h2 : t.toInt ≤ 65535) {f : Int64} (hk : R_kind t f = 5) (hn : R_neg t = true) : t = 65535 := by
  have hp : R_pow t = 32767 := by
    unfold R_kind at hk
    by_cases c0 : R_pow t = 0
    · rw [if_pos c0] at hk
      by_cases c : f = 0
      · rw [if_pos c] at hk; exact absurd hk (by decide)
      · rw [if_neg c] at hk; exact absurd hk (by decide)
    · rw [if_neg c0] at hk
      by_cases c7 : R_pow t = 32767
      · exact c7
      · rw [if_neg c7] at hk
        by_cases c : f < 0
        · rw [if_pos c] at hk; exact absurd hk (by decide)
        · rw [if_neg c] at hk; exact absurd hk (by decide)
  obtain ⟨a, ha, rfl⟩ := top_of h1 h2
  rw [pow_n] at hp
  rw [neg_n ha] at hn
  have e7 : nI (a % 32768) = 32767 ↔ a % 32768 = 32767 := nI_eq (b := 32767) (by omega) (by decide)
  have g1 := e7.mp hp
  have g2 := of_decide_eq_true hn
  have : a = 65535 := by omega
  rw [this]; rfl
theorem subst_5x {tx : Int32} {fx : Int64} {ty : Int32} {fy : Int64} (hx : R_kind tx fx = 5) (hy : ¬ R_kind ty fy = 5) : R_subst tx fx ty fy = (tx, fx) := by
  unfold R_subst
  rw [isOf_t hx, isOf_f hy, if_neg bIt, if_pos bIf]
theorem subst_x5 {tx : Int32} {fx : Int64} {ty : Int32} {fy : Int64} (hx : ¬ R_kind tx fx = 5) (hy : R_kind ty fy = 5) : R_subst tx fx ty fy = (ty, fy) := by
  unfold R_subst
  rw [isOf_f hx, isOf_t hy, if_pos bIf, if_neg bIt]
theorem subst_xx {tx : Int32} {fx : Int64} {ty : Int32} {fy : Int64} (hx : ¬ R_kind tx fx = 5) (hy : ¬ R_kind ty fy = 5) : R_subst tx fx ty fy = (65535, -4611686018427387904) := by
  unfold R_subst
  rw [isOf_f hx, isOf_f hy, if_pos bIf, if_pos bIf]
theorem subst_55 {tx : Int32} {fx : Int64} {ty : Int32} {fy : Int64} (hx : R_kind tx fx = 5) (hy : R_kind ty fy = 5) : R_subst tx fx ty fy = (if fx = fy then (if bI (R_neg tx) = 0 then (tx, fx) else (ty, fy)) else if (J_cmpU fx fy) ≤ 0 then (ty, fy) else (tx, fx)) := by
  unfold R_subst
  rw [isOf_t hx, isOf_t hy, if_neg bIt, if_neg bIt]
  rfl
theorem R_goes_1 {cw tx ty : Int32} {fx fy : Int64} {im : Bool} (dv : Bool) (h : R_kind tx fx = 5 ∨ R_kind ty fy = 5 ∨ im = true) : R_goesOn cw tx fx ty fy im dv = (false, nI 1, R_masked cw 1) := by
  have et : R_tell cw 0 1 = (nI 1, R_masked cw 1) := rfl
  unfold R_goesOn
  by_cases hx : R_kind tx fx = 5
  · rw [isOf_t hx, if_neg bIt, tup2_e et]
  · by_cases hy : R_kind ty fy = 5
    · rw [isOf_f hx, isOf_t hy, if_pos bIf, if_neg bIt, tup2_e et]
    · have hi : im = true := by rcases h with h | h | h <;> first | exact absurd h hx | exact absurd h hy | exact h
      rw [isOf_f hx, isOf_f hy, hi, if_pos bIf, if_pos bIf, if_neg bIt, tup2_e et]
theorem R_goes_2 {cw tx ty : Int32} {fx fy : Int64} (hx : ¬ R_kind tx fx = 5) (hy : ¬ R_kind ty fy = 5) (h : R_kind tx fx = 1 ∨ R_kind ty fy = 1) : R_goesOn cw tx fx ty fy false false = (R_masked cw 2, nI 2, R_masked cw 2) := by
  have et : R_tell cw 0 2 = (nI 2, R_masked cw 2) := rfl
  unfold R_goesOn
  rw [isOf_f hx, isOf_f hy, if_pos bIf, if_pos bIf, if_pos bIf]
  by_cases c : R_kind tx fx = 1
  · rw [isOf_t c, if_neg bIt, tup2_e et]
    cases R_masked cw 2 <;> rfl
  · have d : R_kind ty fy = 1 := h.resolve_left c
    rw [isOf_f c, isOf_t d, if_pos bIf, if_neg bIt, tup2_e et]
    cases R_masked cw 2 <;> rfl
theorem R_goes_0 {cw tx ty : Int32} {fx fy : Int64} (hx : ¬ R_kind tx fx = 5) (hy : ¬ R_kind ty fy = 5) (h1 : ¬ R_kind tx fx = 1) (h2 : ¬ R_kind ty fy = 1) : R_goesOn cw tx fx ty fy false false = (true, nI 0, true) := by
  unfold R_goesOn
  rw [isOf_f hx, isOf_f hy, if_pos bIf, if_pos bIf, if_pos bIf, isOf_f h1, isOf_f h2, if_pos bIf, if_pos bIf, if_pos bIf]
  rfl
theorem R_goes_4 {cw tx ty : Int32} {fx fy : Int64} (hx : ¬ R_kind tx fx = 5) (hy : ¬ R_kind ty fy = 5) (h1 : ¬ R_kind tx fx = 1) (h2 : ¬ R_kind ty fy = 1) : R_goesOn cw tx fx ty fy false true = (R_masked cw 4, nI 4, R_masked cw 4) := by
  have et : R_tell cw 0 4 = (nI 4, R_masked cw 4) := rfl
  unfold R_goesOn
  rw [isOf_f hx, isOf_f hy, if_pos bIf, if_pos bIf, if_pos bIf, isOf_f h1, isOf_f h2, if_pos bIf, if_pos bIf, if_neg bIt, tup2_e et]
theorem goes2 {cw tx ty : Int32} {fx fy : Int64} (hc1 : 0 ≤ cw.toInt) (hc2 : cw.toInt ≤ 65535) (hx1 : 0 ≤ tx.toInt) (hx2 : tx.toInt ≤ 65535) (hy1 : 0 ≤ ty.toInt) (hy2 : ty.toInt ≤ 65535) {rb : Int32} (hrb : ¬ rb < 0) (aT : Int32) (aF : Int64) (im can : Bool) (hcan : ¬ R_kind tx fx = 5 → ¬ R_kind ty fy = 5 → can = !im) :
    ∃ (g : Bool) (d : Nat) (an : Bool) (aT' : Int32) (aF' : Int64), R_goesOn cw tx fx ty fy im false = (g, nI d, an) ∧ M_goesOn cw 0 false aT aF tx fx rb ty fy can = (g, nI d, (if g = true then false else an), aT', aF') ∧ d < 3 ∧ (g = false → an = true → R_subst tx fx ty fy = (aT', aF')) ∧ (g = true → an = true ∧ ¬ R_kind tx fx = 5 ∧ ¬ R_kind ty fy = 5 ∧ im = false) := by
  have ht1 : M_tell cw 0 1 = (R_masked cw 1, nI 1) := tell_n hc1 hc2 (d := 0) (j := 0) (by decide) (by decide) rfl
  have ht2 : M_tell cw 0 2 = (R_masked cw 2, nI 2) := tell_n hc1 hc2 (d := 0) (j := 1) (by decide) (by decide) rfl
  have k5x := kindI hx1 hx2 fx (k := 5) (K := 5) rfl (by decide)
  have k5y := kindI hy1 hy2 fy (k := 5) (K := 5) rfl (by decide)
  have k1x := kindI hx1 hx2 fx (k := 1) (K := 1) rfl (by decide)
  have k1y := kindI hy1 hy2 fy (k := 1) (K := 1) rfl (by decide)
  unfold M_goesOn
  by_cases hx : R_kind tx fx = 5
  · rw [R_goes_1 false (Or.inl hx), if_pos (k5x.mpr hx), if_neg hrb]
    have ans : ∀ (t : Int32) (f : Int64), R_subst tx fx ty fy = (t, f) → ∃ (g : Bool) (d : Nat) (an : Bool) (aT' : Int32) (aF' : Int64), (false, nI 1, R_masked cw 1) = (g, nI d, an) ∧ (tup2 (M_tell cw 0 1) fun v otd => if bI v = 0 then (false, otd, false, aT, aF) else tup3 (M_answer t f) fun oan oaT oaF => (false, otd, oan, oaT, oaF)) = (g, nI d, (if g = true then false else an), aT', aF') ∧ d < 3 ∧ (g = false → an = true → R_subst tx fx ty fy = (aT', aF')) ∧ (g = true → an = true ∧ ¬ R_kind tx fx = 5 ∧ ¬ R_kind ty fy = 5 ∧ im = false) := by
      intro t f hs
      rw [tup2_e ht1]
      cases hm : R_masked cw 1
      · exact ⟨false, 1, false, aT, aF, rfl, rfl, by decide, fun _ q => absurd q (by decide), fun q => absurd q (by decide)⟩
      · exact ⟨false, 1, true, t, f, rfl, rfl, by decide, fun _ _ => hs, fun q => absurd q (by decide)⟩
    by_cases hy : R_kind ty fy = 5
    · rw [if_pos (k5y.mpr hy)]
      have hs := subst_55 hx hy
      have hml : M_less fx fy = decide (J_cmpU fx fy < 0) := by
        obtain ⟨a, ha, rfl⟩ := wb_of fx
        obtain ⟨b, hb, rfl⟩ := wb_of fy
        rw [less_n ha hb]
        exact decide_eq_decide.mpr (cmpU_lt ha hb).symm
      rw [hml, minus_neg hx1 hx2, minus_neg hy1 hy2]
      by_cases c1 : J_cmpU fx fy < 0
      · have c2 : ¬ fx = fy := by
          intro q
          obtain ⟨a, ha, rfl⟩ := wb_of fx
          rw [← q] at c1
          have := (cmpU_lt ha ha).mp c1
          omega
        have c3 : J_cmpU fx fy ≤ 0 := (fa_of_lt c1).1
        rw [if_neg c2, if_pos c3] at hs
        rw [decide_eq_true c1, if_neg bIt]
        exact ans _ _ hs
      · rw [decide_eq_false c1, if_pos bIf]
        by_cases c2 : fx = fy
        · rw [if_pos c2] at hs
          rw [if_pos c2]
          cases hn : R_neg tx
          · rw [hn, if_pos bIf] at hs
            rw [if_pos bIf]
            exact ans _ _ hs
          · rw [hn, if_neg bIt] at hs
            rw [if_neg bIt]
            cases hm : R_neg ty
            · rw [if_pos bIf]
              exact ans _ _ hs
            · rw [if_neg bIt]
              rw [kind5_top hy1 hy2 hy hm, ← kind5_top hx1 hx2 hx hn, ← c2] at hs
              have hs2 := hs
              exact ans _ _ (by rw [kind5_top hy1 hy2 hy hm, ← kind5_top hx1 hx2 hx hn, ← c2]; exact hs2)
        · rw [if_neg c2] at hs
          rw [if_neg c2]
          have c3 : ¬ J_cmpU fx fy ≤ 0 := by
            intro q
            obtain ⟨a, ha, rfl⟩ := wb_of fx
            obtain ⟨b, hb, rfl⟩ := wb_of fy
            rw [cmpU_lt ha hb] at c1
            rw [cmpU_le ha hb] at q
            exact c2 (by rw [show a = b by omega])
          rw [if_neg c3] at hs
          exact ans _ _ hs
    · rw [if_neg (fun q => hy (k5y.mp q))]
      exact ans _ _ (subst_5x hx hy)
  · rw [if_neg (fun q => hx (k5x.mp q)), if_neg hrb]
    by_cases hy : R_kind ty fy = 5
    · rw [R_goes_1 false (Or.inr (Or.inl hy)), if_pos (k5y.mpr hy), tup2_e ht1]
      have hs := subst_x5 hx hy
      cases hm : R_masked cw 1
      · exact ⟨false, 1, false, aT, aF, rfl, rfl, by decide, fun _ q => absurd q (by decide), fun q => absurd q (by decide)⟩
      · exact ⟨false, 1, true, ty, fy, rfl, rfl, by decide, fun _ _ => hs, fun q => absurd q (by decide)⟩
    · rw [if_neg (fun q => hy (k5y.mp q)), hcan hx hy]
      cases im
      · rw [if_neg (show ¬ bI (!false) = 0 by decide)]
        by_cases h1 : R_kind tx fx = 1
        · rw [R_goes_2 hx hy (Or.inl h1), if_pos (k1x.mpr h1), tup2_e ht2]
          cases hm : R_masked cw 2
          · exact ⟨false, 2, false, aT, aF, rfl, rfl, by decide, fun _ q => absurd q (by decide), fun q => absurd q (by decide)⟩
          · exact ⟨true, 2, true, aT, aF, rfl, rfl, by decide, fun q => absurd q (by decide), fun _ => ⟨rfl, hx, hy, rfl⟩⟩
        · rw [if_neg (fun q => h1 (k1x.mp q))]
          by_cases h2 : R_kind ty fy = 1
          · rw [R_goes_2 hx hy (Or.inr h2), if_pos (k1y.mpr h2), tup2_e ht2]
            cases hm : R_masked cw 2
            · exact ⟨false, 2, false, aT, aF, rfl, rfl, by decide, fun _ q => absurd q (by decide), fun q => absurd q (by decide)⟩
            · exact ⟨true, 2, true, aT, aF, rfl, rfl, by decide, fun q => absurd q (by decide), fun _ => ⟨rfl, hx, hy, rfl⟩⟩
          · rw [if_neg (fun q => h2 (k1y.mp q)), R_goes_0 hx hy h1 h2]
            exact ⟨true, 0, true, aT, aF, rfl, rfl, by decide, fun q => absurd q (by decide), fun _ => ⟨rfl, hx, hy, rfl⟩⟩
      · rw [if_pos (show bI (!true) = 0 by decide), R_goes_1 false (Or.inr (Or.inr rfl)), tup2_e ht1]
        have hs := subst_xx hx hy
        cases hm : R_masked cw 1
        · exact ⟨false, 1, false, aT, aF, rfl, rfl, by decide, fun _ q => absurd q (by decide), fun q => absurd q (by decide)⟩
        · exact ⟨false, 1, true, _, _, rfl, rfl, by decide, fun _ _ => hs, fun q => absurd q (by decide)⟩
theorem goes1 {cw tx ty : Int32} {fx fy : Int64} (hc1 : 0 ≤ cw.toInt) (hc2 : cw.toInt ≤ 65535) (hx1 : 0 ≤ tx.toInt) (hx2 : tx.toInt ≤ 65535) (hy5 : R_kind ty fy = 5 → ty = tx ∧ fy = fx) (hy1 : R_kind ty fy = 1 → R_kind tx fx = 1) (aT : Int32) (aF : Int64) (im can : Bool) (tb : Int32) (fb : Int64) (hcan : ¬ R_kind tx fx = 5 → can = !im) :
    ∃ (g : Bool) (d : Nat) (an : Bool) (aT' : Int32) (aF' : Int64), R_goesOn cw tx fx ty fy im false = (g, nI d, an) ∧ M_goesOn cw 0 false aT aF tx fx (-1) tb fb can = (g, nI d, (if g = true then false else an), aT', aF') ∧ d < 3 ∧ (g = false → an = true → R_subst tx fx ty fy = (aT', aF')) ∧ (g = true → an = true ∧ ¬ R_kind tx fx = 5 ∧ im = false ∧ aT' = aT ∧ aF' = aF) := by
  have ht1 : M_tell cw 0 1 = (R_masked cw 1, nI 1) := tell_n hc1 hc2 (d := 0) (j := 0) (by decide) (by decide) rfl
  have ht2 : M_tell cw 0 2 = (R_masked cw 2, nI 2) := tell_n hc1 hc2 (d := 0) (j := 1) (by decide) (by decide) rfl
  have k5x := kindI hx1 hx2 fx (k := 5) (K := 5) rfl (by decide)
  have k1x := kindI hx1 hx2 fx (k := 1) (K := 1) rfl (by decide)
  have hm1 : (-1 : Int32) < 0 := by decide
  unfold M_goesOn
  by_cases hx : R_kind tx fx = 5
  · rw [R_goes_1 false (Or.inl hx), if_pos (k5x.mpr hx), if_pos hm1, tup2_e ht1]
    have hs : R_subst tx fx ty fy = (tx, fx) := by
      by_cases hy : R_kind ty fy = 5
      · obtain ⟨e1, e2⟩ := hy5 hy
        rw [e1, e2, subst_55 hx hx, if_pos rfl]
        cases R_neg tx <;> rfl
      · exact subst_5x hx hy
    cases hm : R_masked cw 1
    · exact ⟨false, 1, false, aT, aF, rfl, rfl, by decide, fun _ q => absurd q (by decide), fun q => absurd q (by decide)⟩
    · exact ⟨false, 1, true, tx, fx, rfl, rfl, by decide, fun _ _ => hs, fun q => absurd q (by decide)⟩
  · have hy : ¬ R_kind ty fy = 5 := by
      intro q
      obtain ⟨e1, e2⟩ := hy5 q
      rw [e1, e2] at q
      exact hx q
    rw [if_neg (fun q => hx (k5x.mp q)), if_pos hm1, hcan hx]
    cases im
    · rw [if_neg (show ¬ bI (!false) = 0 by decide)]
      by_cases h1 : R_kind tx fx = 1
      · rw [R_goes_2 hx hy (Or.inl h1), if_pos (k1x.mpr h1), tup2_e ht2]
        cases hm : R_masked cw 2
        · exact ⟨false, 2, false, aT, aF, rfl, rfl, by decide, fun _ q => absurd q (by decide), fun q => absurd q (by decide)⟩
        · exact ⟨true, 2, true, aT, aF, rfl, rfl, by decide, fun q => absurd q (by decide), fun _ => ⟨rfl, hx, rfl, rfl, rfl⟩⟩
      · rw [if_neg (fun q => h1 (k1x.mp q)), R_goes_0 hx hy h1 (fun q => h1 (hy1 q))]
        exact ⟨true, 0, true, aT, aF, rfl, rfl, by decide, fun q => absurd q (by decide), fun _ => ⟨rfl, hx, rfl, rfl, rfl⟩⟩
    · rw [if_pos (show bI (!true) = 0 by decide), R_goes_1 false (Or.inr (Or.inr rfl)), tup2_e ht1]
      have hs := subst_xx hx hy
      cases hm : R_masked cw 1
      · exact ⟨false, 1, false, aT, aF, rfl, rfl, by decide, fun _ q => absurd q (by decide), fun q => absurd q (by decide)⟩
      · exact ⟨false, 1, true, _, _, rfl, rfl, by decide, fun _ _ => hs, fun q => absurd q (by decide)⟩
