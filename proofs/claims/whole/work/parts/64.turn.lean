theorem s_turn : S_turn := by
  intro tf ff cw td an qb pa cd ct tg fg tE aE qE pE aT aF dg fi lo rg aw hinv k u_tf w_cd w_tf h1 h2
  have hI := hinv
  obtain ⟨e1, e2, e3, e4, e5, hr, hc⟩ := hinv
  unfold R_turn at h1
  unfold M_turn at h2
  by_cases hn : R_need rg = true
  · obtain ⟨g1, g2, g3, g4⟩ := hr _ (need_lt hn)
    rw [if_pos hn] at h1
    rw [if_pos (none_0 hn), g1] at h2
    obtain ⟨a, ha, ea⟩ := top_of g3 g4
    rw [ea] at h1 h2
    rw [turn_n ha, and_n ha] at h1
    have e : nI a ≤ 32767 ↔ a ≤ 32767 := nI_leI (b := 32767) (by omega) (by decide)
    have hv : (if bI aw = 0 then (if nI a ≤ 32767 then nI a + 32768 else nI a - 32768) else (if nI a ≤ 32767 then nI a else nI a - 32768)) = (if nI a ≤ 32767 then (if bI aw = 0 then nI a + 32768 else nI a) else nI a - 32768) := by
      by_cases d1 : bI aw = 0
      · rw [if_pos d1, if_pos d1]
      · rw [if_neg d1, if_neg d1]
    rw [hv] at h1
    have hb : ∃ x : Nat, x < 65536 ∧ (if nI a ≤ 32767 then (if bI aw = 0 then nI a + 32768 else nI a) else nI a - 32768) = nI x := by
      by_cases d2 : a ≤ 32767
      · rw [if_pos (e.mpr d2)]
        by_cases d1 : bI aw = 0
        · rw [if_pos d1]
          exact ⟨a + 32768, by omega, nI_add a 32768⟩
        · rw [if_neg d1]
          exact ⟨a, ha, rfl⟩
      · rw [if_neg (fun z => d2 (e.mp z))]
        exact ⟨a - 32768, by omega, pk_sub (b := 32768) (by omega)⟩
    obtain ⟨x, hx, ex⟩ := hb
    rw [ex] at h1 h2
    obtain ⟨a1, a2⟩ := Prod.mk.inj h1
    obtain ⟨b1, b2⟩ := Prod.mk.inj h2
    refine ⟨by rw [← b1, ← a1], e1, e2, e3, e4, e5, ?_, hc⟩
    rw [← a2, ← b2]
    intro j hj
    obtain ⟨r1, r2, r3, r4⟩ := hr j hj
    rw [upd_at, upd_at]
    by_cases cj : j = rg.toNatClampNeg
    · rw [if_pos cj, if_pos cj, nI_toInt (by omega)]
      exact ⟨rfl, r2, by omega, by omega⟩
    · rw [if_neg cj, if_neg cj]
      exact ⟨r1, r2, r3, r4⟩
  · rw [if_neg hn] at h1
    rw [if_neg (none_1 hn)] at h2
    obtain ⟨a1, a2⟩ := Prod.mk.inj h1
    obtain ⟨b1, b2⟩ := Prod.mk.inj h2
    refine ⟨by rw [← b1, ← a1], e1, e2, e3, e4, e5, ?_, hc⟩
    rw [← a2, ← b2]
    exact hr
