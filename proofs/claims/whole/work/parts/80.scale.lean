theorem s_scale : S_scale := by
  intro tf ff cw td an qb pa cd ct tg fg tE aE qE pE aT aF dg fi lo ra rb rc hinv v k u_tf u_ff u_td u_an b w_cd w_tf w_ff w_td w_an w_aT w_aF w_dg w_fi w_lo h1 h2
  have hI := hinv
  obtain ⟨e1, e2, e3, e4, e5, hr, hc1, hc2⟩ := hinv
  unfold R_scale at h1
  unfold M_scale at h2
  by_cases hn : R_need ra = true
  · rw [if_pos hn] at h1
    rw [if_pos (none_0 hn)] at h2
    by_cases hb : R_need rb = true
    · rw [if_pos hb] at h1
      rw [if_pos (none_0 hb)] at h2
      by_cases hw : R_need rc = true
      · obtain ⟨g1, g2, g3, g4⟩ := hr _ (need_lt hn)
        obtain ⟨j1, j2, j3, j4⟩ := hr _ (need_lt hb)
        rw [if_pos hw, tup2_e (read_e _ _), tup2_e (read_e _ _)] at h1
        rw [if_pos (none_0 hw), tup2_e begin_e, g1, g2, j1, j2, e1] at h2
        generalize tf ra.toNatClampNeg = t at h1 h2 g3 g4
        generalize ff ra.toNatClampNeg = f at h1 h2
        generalize tf rb.toNatClampNeg = s at h1 h2 j3 j4
        generalize ff rb.toNatClampNeg = y at h1 h2
        clear g1 g2 j1 j2
        have k4 := kindI g3 g4 f (k := 4) (K := 4) rfl (by decide)
        have ky := R_kind_lt s y
        have k4y : (4 : Int32) ≤ M_kind s y ↔ 4 ≤ R_kind s y := by
          rw [kind_eq j3 j4]
          exact nI_leI (a := 4) (by decide) (by omega)
        obtain ⟨r1, r2⟩ := unit_rng g3 g4
        rw [minus_neg g3 g4, minus_neg j3 j4, nothing_eq j3 j4, unit_eq g3 g4] at h2
        have hnn := need_nn hb
        have ea : M_answer t f = (true, t, f) := rfl
        by_cases c4 : 4 ≤ R_kind s y
        · rw [if_pos (k4y.mpr c4), if_pos bIf] at h2
          have hcan : ¬ R_kind t f = 5 → ¬ R_kind s y = 5 → false = !(R_beyond s y) := by
            intro _ q
            have q4 : R_kind s y = 4 := by omega
            unfold R_beyond
            rw [nought_4 q4, if_pos bIf, isOf_t q4, if_neg bIt]
            rfl
          obtain ⟨g, d, a, aT', aF', hg1, hg2, hd, hs, ht⟩ := goes2 (fx := f) (fy := y) hc1 hc2 g3 g4 j3 j4 hnn aT aF (R_beyond s y) false hcan
          rw [tup3_e hg1] at h1
          rw [tup5_e hg2] at h2
          cases g
          · rw [if_pos bIf] at h1 h2
            exact fin_sub hI g3 g4 j3 j4 (hs rfl) h1 h2
          · obtain ⟨ha, hx5, hy5, him⟩ := ht rfl
            have := hcan hx5 hy5
            rw [him] at this
            exact absurd this (by decide)
        · have k4n : ¬ (4 : Int32) ≤ M_kind s y := fun q => c4 (k4y.mp q)
          have kn4 : ¬ R_kind s y = 4 := by omega
          rw [if_neg k4n, if_neg bIt] at h2
          by_cases hf : y = 0
          · have hno : R_nought s y = true := by rw [nought_f kn4, decide_eq_true hf]
            have hbe : R_beyond s y = false := by
              unfold R_beyond
              rw [hno, if_neg bIt]
            have hco : R_cutOff s y = 0 := by
              unfold R_cutOff
              rw [hno, if_neg bIt]
            rw [hno, if_neg bIt] at h2
            obtain ⟨g, d, a, aT', aF', hg1, hg2, hd, hs, ht⟩ := goes2 (fx := f) (fy := y) hc1 hc2 g3 g4 j3 j4 hnn aT aF false true (fun _ _ => rfl)
            rw [hbe, tup3_e hg1] at h1
            rw [tup5_e hg2] at h2
            cases g
            · rw [if_pos bIf] at h1 h2
              exact fin_sub hI g3 g4 j3 j4 (hs rfl) h1 h2
            · obtain ⟨ha, hx5, hy5, him⟩ := ht rfl
              rw [ha, if_neg bIt] at h1
              rw [if_neg bIt] at h2
              by_cases hk : R_kind t f = 4
              · rw [tup3_e (scaled_4 hk), tup2_e (write_e _ _ _ _ _)] at h1
                rw [if_pos (k4.mpr hk), tup3_e ea, tup2_e keep_t] at h2
                exact fin_set hI g3 g4 h1 h2
              · rw [if_neg (fun q => hk (k4.mp q))] at h2
                have hz : (if bI (R_neg s) = 0 then (0 : Int32) else (-0 : Int32)) = 0 := by
                  by_cases c : bI (R_neg s) = 0
                  · rw [if_pos c]
                  · rw [if_neg c]; rfl
                have hu0 : R_unit t + 0 = R_unit t := Int32.add_zero _
                rw [hz, hu0] at h2
                rw [scaled_n hk, hco, hu0] at h1
                obtain ⟨T, F, d', lo', m1, m2, m3, m4, m5⟩ := make_eq hc1 hc2 (by omega : d < 64) lo (R_neg t) f (un := R_unit t) (by omega) (by omega)
                rw [tup3_e m1, tup2_e (write_e _ _ _ _ _)] at h1
                rw [tup5_e m2, tup2_e keep_t] at h2
                exact fin_set hI m3 m4 h1 h2
          · have hno : R_nought s y = false := by rw [nought_f kn4, decide_eq_false hf]
            have hap := apart_n j3 j4 hf
            rw [hno, if_pos bIf, tup2_e hap] at h2
            have hcan : ¬ R_kind t f = 5 → ¬ R_kind s y = 5 → (if (14 : Int32) ≤ R_exp s y then false else true) = !(R_beyond s y) := by
              intro _ _
              unfold R_beyond
              rw [hno, if_pos bIf, isOf_f kn4, if_pos bIf]
              by_cases c : R_exp s y < 14
              · rw [if_pos c, if_neg (fa_of_lt c).2.1]; rfl
              · rw [if_neg c, if_pos (fa_of_nlt c)]; rfl
            obtain ⟨g, d, a, aT', aF', hg1, hg2, hd, hs, ht⟩ := goes2 (fx := f) (fy := y) hc1 hc2 g3 g4 j3 j4 hnn aT aF (R_beyond s y) _ hcan
            rw [tup3_e hg1] at h1
            rw [tup5_e hg2] at h2
            cases g
            · rw [if_pos bIf] at h1 h2
              exact fin_sub hI g3 g4 j3 j4 (hs rfl) h1 h2
            · obtain ⟨ha, hx5, hy5, him⟩ := ht rfl
              rw [ha, if_neg bIt] at h1
              rw [if_neg bIt] at h2
              by_cases hk : R_kind t f = 4
              · rw [tup3_e (scaled_4 hk), tup2_e (write_e _ _ _ _ _)] at h1
                rw [if_pos (k4.mpr hk), tup3_e ea, tup2_e keep_t] at h2
                exact fin_set hI g3 g4 h1 h2
              · rw [if_neg (fun q => hk (k4.mp q)), tup2_e hap] at h2
                have h14 : R_exp s y < 14 := by
                  by_cases c : R_exp s y < 14
                  · exact c
                  · have := hcan hx5 hy5
                    rw [him, if_pos (fa_of_nlt c)] at this
                    exact absurd this (by decide)
                obtain ⟨v1, v2, hl, hco, o1, o2⟩ := cut_eq j3 j4 kn4 hf h14
                rw [tup2_e hl, ← hco] at h2
                rw [scaled_n hk] at h1
                have hun : (R_unit t + R_cutOff s y).toInt = (R_unit t).toInt + (R_cutOff s y).toInt := addK rfl rfl (by omega) (by omega)
                obtain ⟨T, F, d', lo', m1, m2, m3, m4, m5⟩ := make_eq hc1 hc2 (by omega : d < 64) lo (R_neg t) f (un := R_unit t + R_cutOff s y) (by rw [hun]; omega) (by rw [hun]; omega)
                rw [tup3_e m1, tup2_e (write_e _ _ _ _ _)] at h1
                rw [tup5_e m2, tup2_e keep_t] at h2
                exact fin_set hI m3 m4 h1 h2
      · rw [if_neg hw] at h1
        rw [if_neg (none_1 hw)] at h2
        exact fin_same hI h1 h2
    · rw [if_neg hb] at h1
      rw [if_neg (none_1 hb)] at h2
      exact fin_same hI h1 h2
  · rw [if_neg hn] at h1
    rw [if_neg (none_1 hn)] at h2
    exact fin_same hI h1 h2
