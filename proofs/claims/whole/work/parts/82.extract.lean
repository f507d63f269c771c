/-! power and fraction -/
theorem updL_swap (f : Nat → Int64) {i j : Nat} (h : i ≠ j) (x y : Int64) : vp_updL (vp_updL f i x) j y = vp_updL (vp_updL f j y) i x := by
  funext k
  rw [updL_at, updL_at, updL_at, updL_at]
  by_cases c : k = j
  · by_cases d : k = i
    · exact absurd (d.symm.trans c) h
    · rw [if_pos c, if_neg d, if_pos c]
  · rw [if_neg c, if_neg c]
theorem inv_set2 {tf : Nat → Int32} {ff : Nat → Int64} {cw td : Int32} {an : Bool} {qb : Int32} {pa : Bool} {ct : Int32} {tg : Nat → Int32} {fg : Nat → Int64} {tE : Int32} {aE : Bool} {qE : Int32} {pE : Bool} (h : INV tf ff cw td an qb pa ct tg fg tE aE qE pE) {p c : Nat} (hpc : p ≠ c) {t1 t2 : Int32} {f1 f2 : Int64} (a1 : 0 ≤ t1.toInt) (a2 : t1.toInt ≤ 65535) (b1 : 0 ≤ t2.toInt) (b2 : t2.toInt ≤ 65535) (D : Int32) (A : Bool) : INV (upd (upd tf p t1) c t2) (vp_updL (vp_updL ff p f1) c f2) cw D A qb pa ct (upd (upd tg c t2) p t1) (vp_updL (vp_updL fg c f2) p f1) D A qE pE := by
  have e1 : upd (upd tg c t2) p t1 = upd (upd tg p t1) c t2 := fa_upd_swap tg (fun q => hpc q.symm) t2 t1
  have e2 : vp_updL (vp_updL fg c f2) p f1 = vp_updL (vp_updL fg p f1) c f2 := updL_swap fg (fun q => hpc q.symm) f2 f1
  rw [e1, e2]
  exact inv_set (inv_set h p a1 a2 D A) c b1 b2 D A
theorem fin_set2 {tf : Nat → Int32} {ff : Nat → Int64} {cw td : Int32} {an : Bool} {qb : Int32} {pa : Bool} {ct : Int32} {tg : Nat → Int32} {fg : Nat → Int64} {tE : Int32} {aE : Bool} {qE : Int32} {pE : Bool} (hI : INV tf ff cw td an qb pa ct tg fg tE aE qE pE) {β : Type} {rest rest' : β} {rp rc D t1 t2 : Int32} {f1 f2 : Int64} {A : Bool} (hpc : rp.toNatClampNeg ≠ rc.toNatClampNeg) {v k : Int32} {u_tf : Nat → Int32} {u_ff : Nat → Int64} {u_td : Int32} {u_an : Bool} {b w_cd : Int32} {w_tf : Nat → Int32} {w_ff : Nat → Int64} {w_td : Int32} {w_an : Bool} (r1 : 0 ≤ t1.toInt) (r2 : t1.toInt ≤ 65535) (q1 : 0 ≤ t2.toInt) (q2 : t2.toInt ≤ 65535) (h1 : (D, (0 : Int32), upd (upd tf rp.toNatClampNeg t1) rc.toNatClampNeg t2, vp_updL (vp_updL ff rp.toNatClampNeg f1) rc.toNatClampNeg f2, D, A) = (v, k, u_tf, u_ff, u_td, u_an)) (h2 : (D, (0 : Int32), upd (upd tg rc.toNatClampNeg t2) rp.toNatClampNeg t1, vp_updL (vp_updL fg rc.toNatClampNeg f2) rp.toNatClampNeg f1, D, A, rest) = (b, w_cd, w_tf, w_ff, w_td, w_an, rest')) : w_cd = k ∧ (k = 0 → v = b) ∧ INV u_tf u_ff cw u_td u_an qb pa ct w_tf w_ff w_td w_an qE pE := by
  obtain ⟨a1, a2, a3, a4, a5, a6⟩ := out6 h1
  obtain ⟨b1, b2, b3, b4, b5, b6⟩ := out9 h2
  rw [a1, a2, a3, a4, a5, a6, b1, b2, b3, b4, b5, b6]
  exact ⟨rfl, fun _ => rfl, inv_set2 hI hpc r1 r2 q1 q2 _ _⟩
theorem fin_not {tf : Nat → Int32} {ff : Nat → Int64} {cw td : Int32} {an : Bool} {qb : Int32} {pa : Bool} {ct : Int32} {tg : Nat → Int32} {fg : Nat → Int64} {tE : Int32} {aE : Bool} {qE : Int32} {pE : Bool} (hI : INV tf ff cw td an qb pa ct tg fg tE aE qE pE) {β : Type} {rest rest' : β} {D : Int32} {A : Bool} {v k : Int32} {u_tf : Nat → Int32} {u_ff : Nat → Int64} {u_td : Int32} {u_an : Bool} {b w_cd : Int32} {w_tf : Nat → Int32} {w_ff : Nat → Int64} {w_td : Int32} {w_an : Bool} (h1 : (D, (0 : Int32), tf, ff, D, A) = (v, k, u_tf, u_ff, u_td, u_an)) (h2 : (D, (0 : Int32), tg, fg, D, A, rest) = (b, w_cd, w_tf, w_ff, w_td, w_an, rest')) : w_cd = k ∧ (k = 0 → v = b) ∧ INV u_tf u_ff cw u_td u_an qb pa ct w_tf w_ff w_td w_an qE pE := by
  obtain ⟨a1, a2, a3, a4, a5, a6⟩ := out6 h1
  obtain ⟨b1, b2, b3, b4, b5, b6⟩ := out9 h2
  rw [a1, a2, a3, a4, a5, a6, b1, b2, b3, b4, b5, b6]
  exact ⟨rfl, fun _ => rfl, inv_tell hI _ _⟩
theorem need_ne {p c : Int32} (hp : R_need p = true) (hc : R_need c = true) (h : ¬ p = c) : p.toNatClampNeg ≠ c.toNatClampNeg := by
  intro q
  obtain ⟨a, ha, ea⟩ := nI_of (need_nn hp)
  obtain ⟨b, hb, eb⟩ := nI_of (need_nn hc)
  rw [ea, eb, nI_clamp ha, nI_clamp hb] at q
  exact h (by rw [ea, eb, q])
theorem nought_kind {t : Int32} {f : Int64} (h : R_nought t f = true) : f = 0 ∧ (R_kind t f = 0 ∨ R_kind t f = 2) := by
  unfold R_nought at h
  by_cases c : f = 0
  · rw [if_pos c] at h
    by_cases p : R_pow t = 32767
    · rw [if_pos p] at h; exact absurd h (by decide)
    · refine ⟨c, ?_⟩
      unfold R_kind
      by_cases p0 : R_pow t = 0
      · rw [if_pos p0, if_pos c]; exact Or.inl rfl
      · rw [if_neg p0, if_neg p, if_neg (by rw [c]; decide)]; exact Or.inr rfl
  · rw [if_neg c] at h; exact absurd h (by decide)
theorem power_4 {cw td t : Int32} {f : Int64} (h : R_kind t f = 4) : R_powerOf cw td t f = (32767, -9223372036854775808, td) := by
  unfold R_powerOf
  rw [isOf_t h, if_neg bIt]
  rfl
theorem power_0 {cw td t : Int32} {f : Int64} (h : ¬ R_kind t f = 4) (hn : R_nought t f = true) : R_powerOf cw td t f = (65535, -9223372036854775808, td) := by
  unfold R_powerOf
  rw [isOf_f h, if_pos bIf, hn, if_neg bIt]
  rfl
theorem power_n {cw td t : Int32} {f : Int64} (h : ¬ R_kind t f = 4) (hn : R_nought t f = false) : R_powerOf cw td t f = R_make cw td (if 0 ≤ (R_exp t f) then false else true) (if 0 ≤ (R_exp t f) then (R_exp t f).toInt64 else (-(R_exp t f)).toInt64) 0 := by
  unfold R_powerOf
  rw [isOf_f h, if_pos bIf, hn, if_pos bIf]
  simp only [tup3_id]
  have e : (0 : Int32) - R_exp t f = -(R_exp t f) := Int32.zero_sub _
  rw [e]
  by_cases c : 0 ≤ R_exp t f
  · simp only [if_pos c]
  · simp only [if_neg c]
theorem fraction_4 {cw td t : Int32} {f : Int64} (h : R_kind t f = 4) : R_fractionOf cw td t f = (t, f, td) := by
  unfold R_fractionOf
  rw [isOf_t h, if_neg bIt]
theorem fraction_n {cw td t : Int32} {f : Int64} (h : ¬ R_kind t f = 4) : R_fractionOf cw td t f = R_make cw td (R_neg t) (R_norm f) (-63) := by
  unfold R_fractionOf
  rw [isOf_f h, if_pos bIf]
  simp only [tup3_id]
theorem s_extract : S_extract := by
  intro tf ff cw td an qb pa cd ct tg fg tE aE qE pE aT aF dg fi lo ra rp rc hinv v k u_tf u_ff u_td u_an b w_cd w_tf w_ff w_td w_an w_aT w_aF w_dg w_fi w_lo h1 h2
  have hI := hinv
  obtain ⟨e1, e2, e3, e4, e5, hr, hc1, hc2⟩ := hinv
  unfold R_extract at h1
  unfold M_extract at h2
  by_cases hn : R_need ra = true
  · rw [if_pos hn] at h1
    rw [if_pos (none_0 hn)] at h2
    by_cases hp : R_need rp = true
    · rw [if_pos hp] at h1
      rw [if_pos (none_0 hp)] at h2
      by_cases hw : R_need rc = true
      · rw [if_pos hw] at h1
        rw [if_pos (none_0 hw)] at h2
        by_cases hq : rp = rc
        · rw [if_pos hq] at h1
          rw [if_pos hq, if_neg (by decide : ¬ (2 : Int32) ≤ 0)] at h2
          exact fin_same hI h1 h2
        · have hpc := need_ne hp hw hq
          obtain ⟨g1, g2, g3, g4⟩ := hr _ (need_lt hn)
          rw [if_neg hq, tup2_e (read_e _ _)] at h1
          rw [if_neg hq, if_pos (by decide : (0 : Int32) ≤ 0), tup2_e begin_e, g1, g2, e1] at h2
          generalize tf ra.toNatClampNeg = t at h1 h2 g3 g4
          generalize ff ra.toNatClampNeg = f at h1 h2
          clear g1 g2
          have k4 := kindI g3 g4 f (k := 4) (K := 4) rfl (by decide)
          obtain ⟨g, d, a, aT', aF', hg1, hg2, hd, hs, ht⟩ := goes1 hc1 hc2 g3 g4 (fx := f) (ty := t) (fy := f) (fun _ => ⟨rfl, rfl⟩) (fun q => q) aT aF false true (tg (-1 : Int32).toNatClampNeg) (fg (-1 : Int32).toNatClampNeg) (fun _ => rfl)
          rw [tup5_e hg2] at h2
          cases hno : R_nought t f
          · rw [hno, tup3_e hg1] at h1
            cases g
            · rw [if_pos bIf] at h1 h2
              rw [if_neg (by decide : ¬ false = true)] at h2
              cases a
              · rw [if_pos bIf] at h1 h2
                exact fin_not hI h1 h2
              · have hsub := hs rfl rfl
                obtain ⟨r1, r2⟩ := subst_rng g3 g4 g3 g4 hsub
                rw [if_neg bIt, tup2_e hsub, tup2_e (write_e _ _ _ _ _), tup2_e hsub, tup2_e (write_e _ _ _ _ _)] at h1
                rw [if_neg bIt, tup2_e keep_t] at h2
                exact fin_set2 hI hpc r1 r2 r1 r2 h1 h2
            · obtain ⟨ha, hx5, _, _, _⟩ := ht rfl
              rw [ha, if_neg bIt] at h1
              rw [if_neg bIt, minus_neg g3 g4, nothing_eq g3 g4, hno] at h2
              by_cases hk : R_kind t f = 4
              · have ea : M_answer t f = (true, t, f) := rfl
                rw [tup3_e (power_4 hk), tup2_e (write_e _ _ _ _ _), tup3_e (fraction_4 hk), tup2_e (write_e _ _ _ _ _)] at h1
                rw [if_pos (k4.mpr hk), tup3_e ea, if_neg bIt, tup2_e keep_t] at h2
                exact fin_set2 hI hpc (by decide) (by decide) g3 g4 h1 h2
              · have hf : ¬ f = 0 := by
                  intro q
                  rw [nought_f hk, decide_eq_true q] at hno
                  exact absurd hno (by decide)
                rw [if_neg (fun q => hk (k4.mp q)), if_pos bIf, tup2_e (apart_n g3 g4 hf)] at h2
                rw [power_n hk hno] at h1
                obtain ⟨T1, F1, d1, lo1, m1, m2, m3, m4, m5⟩ := make_eq hc1 hc2 (by omega : d < 64) lo (if 0 ≤ (R_exp t f) then false else true) (if 0 ≤ (R_exp t f) then (R_exp t f).toInt64 else (-(R_exp t f)).toInt64) (un := 0) (by decide) (by decide)
                rw [tup3_e m1, tup2_e (write_e _ _ _ _ _)] at h1
                rw [tup5_e m2] at h2
                obtain ⟨T2, F2, d2, lo2, n1, n2, n3, n4, n5⟩ := make_eq hc1 hc2 m5 lo1 (R_neg t) (R_norm f) (un := -63) (by decide) (by decide)
                rw [fraction_n hk, tup3_e n1, tup2_e (write_e _ _ _ _ _)] at h1
                rw [tup5_e n2, if_neg bIt, tup2_e keep_t] at h2
                exact fin_set2 hI hpc m3 m4 n3 n4 h1 h2
          · obtain ⟨hf0, hk02⟩ := nought_kind hno
            have hk5 : ¬ R_kind t f = 5 := by omega
            have hk4 : ¬ R_kind t f = 4 := by omega
            have hk1 : ¬ R_kind t f = 1 := by omega
            have h0 := R_goes_0 (cw := cw) hk5 hk5 hk1 hk1
            rw [h0] at hg1
            obtain ⟨c1, c⟩ := Prod.mk.inj hg1
            obtain ⟨c2, c3⟩ := Prod.mk.inj c
            have hd0 : d = 0 := by
              have := (nI_eq (a := 0) (b := d) (by decide) (by omega)).mp c2
              omega
            subst hd0
            have ht4 : M_tell cw (nI 0) 4 = (R_masked cw 4, nI 4) := tell_n hc1 hc2 (d := 0) (j := 2) (by decide) (by decide) rfl
            rw [hno, tup3_e (R_goes_4 (cw := cw) hk5 hk5 hk1 hk1)] at h1
            rw [← c1, if_neg bIt, if_neg (fun q => hk4 (k4.mp q)), nothing_eq g3 g4, hno, if_neg bIt, tup2_e ht4, minus_neg g3 g4] at h2
            cases hm : R_masked cw 4
            · rw [hm, if_pos bIf, if_pos bIf] at h1
              rw [hm, if_pos bIf, if_pos rfl, if_pos bIf] at h2
              exact fin_not hI h1 h2
            · have ea : M_answer (if bI (R_neg t) = 0 then (0 : Int32) else (32768 : Int32)) 0 = (true, (if bI (R_neg t) = 0 then (0 : Int32) else (32768 : Int32)), 0) := rfl
              have hn0 : R_norm f = 0 := by rw [hf0]; rfl
              have hmk : R_make cw (nI 4) (R_neg t) 0 (-63) = ((if bI (R_neg t) = 0 then (0 : Int32) else (32768 : Int32)), 0, nI 4) := rfl
              rw [hm, if_neg bIt, tup3_e (power_0 hk4 hno), tup2_e (write_e _ _ _ _ _), fraction_n hk4, hn0, tup3_e hmk, tup2_e (write_e _ _ _ _ _)] at h1
              rw [hm, if_neg bIt, tup3_e ea, if_neg bIt, tup2_e keep_t] at h2
              exact fin_set2 hI hpc (by decide) (by decide) (by cases R_neg t <;> decide) (by cases R_neg t <;> decide) h1 h2
      · rw [if_neg hw] at h1
        rw [if_neg (none_1 hw)] at h2
        exact fin_same hI h1 h2
    · rw [if_neg hp] at h1
      rw [if_neg (none_1 hp)] at h2
      exact fin_same hI h1 h2
  · rw [if_neg hn] at h1
    rw [if_neg (none_1 hn)] at h2
    exact fin_same hI h1 h2
