/-- high and low, put together -/
theorem put_hl (hi lw : Int32) : (jlshl hi.toInt64 32) ||| (lw.toInt64 &&& 4294967295) = hi.toInt64 * 4294967296 + (lw.toInt64 &&& 4294967295) := by
  obtain ⟨n, hn, e⟩ := wb_of hi.toInt64
  obtain ⟨m, hm, e2⟩ := wb_of lw.toInt64
  have e3 : lN m &&& (4294967295 : Int64) = lN (m % 4294967296) := g_mask (p := 4294967296) (s := 32) rfl (by decide) hm
  have e4 : jlshl (lN n) 32 = lN (n * 2 ^ 32) := wb_shl n (k := 32) (by decide)
  rw [e, e2, e3, e4]
  have e5 : lN n * (4294967296 : Int64) = lN (n * 4294967296) := lN_mul n 4294967296
  rw [e5, lN_add]
  have e6 : lN (n * 2 ^ 32) = lN (n % 4294967296 * 2 ^ 32) := by
    rw [wb_mod, wb_mod (n % 4294967296 * 2 ^ 32)]
    refine congrArg lN ?_
    omega
  have e7 : lN (n * 4294967296 + m % 4294967296) = lN (n % 4294967296 * 2 ^ 32 + m % 4294967296) := by
    rw [wb_mod, wb_mod (n % 4294967296 * 2 ^ 32 + m % 4294967296)]
    refine congrArg lN ?_
    omega
  rw [e6, e7]
  exact g_or (k := 32) (p := 2 ^ 32) rfl (by omega) (by omega)
theorem s_set : S_set := by
  intro tf ff cw td an qb pa cd ct tg fg tE aE qE pE aT aF dg fi lo rg tp hi lw hinv k u_tf u_ff w_cd w_tf w_ff h1 h2
  have hI := hinv
  obtain ⟨e1, e2, e3, e4, e5, hr, hc⟩ := hinv
  unfold R_set at h1
  unfold M_set at h2
  have h0 : (0 : Int32).toInt = 0 := rfl
  have h65 : (65535 : Int32).toInt = 65535 := rfl
  have n2 : ¬ (2 : Int32) ≤ 0 := by decide
  have y0 : (0 : Int32) ≤ 0 := by decide
  by_cases hn : R_need rg = true
  · rw [if_pos hn] at h1
    rw [if_pos (none_0 hn)] at h2
    by_cases c1 : tp < 0
    · rw [if_pos c1] at h1 h2
      rw [if_neg n2] at h2
      obtain ⟨a1, a⟩ := Prod.mk.inj h1
      obtain ⟨a2, a3⟩ := Prod.mk.inj a
      obtain ⟨b1, b⟩ := Prod.mk.inj h2
      obtain ⟨b2, b3⟩ := Prod.mk.inj b
      rw [← a1, ← a2, ← a3, ← b1, ← b2, ← b3]
      exact ⟨rfl, hI⟩
    · by_cases c2 : tp ≤ 65535
      · rw [if_neg c1, if_pos c2] at h1 h2
        rw [if_pos y0] at h2
        have h3 : (0, upd tf rg.toNatClampNeg tp, vp_updL ff rg.toNatClampNeg ((jlshl hi.toInt64 32) ||| (lw.toInt64 &&& 4294967295))) = (k, u_tf, u_ff) := h1
        rw [put_hl] at h3
        obtain ⟨a1, a⟩ := Prod.mk.inj h3
        obtain ⟨a2, a3⟩ := Prod.mk.inj a
        obtain ⟨b1, b⟩ := Prod.mk.inj h2
        obtain ⟨b2, b3⟩ := Prod.mk.inj b
        rw [← a1, ← a2, ← a3, ← b1, ← b2, ← b3]
        rw [ilt, h0] at c1
        rw [ile, h65] at c2
        exact ⟨rfl, e1, e2, e3, e4, e5, inv_write hr _ rfl rfl (by omega) c2, hc⟩
      · rw [if_neg c1, if_neg c2] at h1 h2
        rw [if_neg n2] at h2
        obtain ⟨a1, a⟩ := Prod.mk.inj h1
        obtain ⟨a2, a3⟩ := Prod.mk.inj a
        obtain ⟨b1, b⟩ := Prod.mk.inj h2
        obtain ⟨b2, b3⟩ := Prod.mk.inj b
        rw [← a1, ← a2, ← a3, ← b1, ← b2, ← b3]
        exact ⟨rfl, hI⟩
  · rw [if_neg hn] at h1
    rw [if_neg (none_1 hn)] at h2
    obtain ⟨a1, a⟩ := Prod.mk.inj h1
    obtain ⟨a2, a3⟩ := Prod.mk.inj a
    obtain ⟨b1, b⟩ := Prod.mk.inj h2
    obtain ⟨b2, b3⟩ := Prod.mk.inj b
    rw [← a1, ← a2, ← a3, ← b1, ← b2, ← b3]
    exact ⟨rfl, hI⟩
