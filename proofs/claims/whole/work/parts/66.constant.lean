theorem s_constant : S_constant := by
  intro tf ff cw td an qb pa cd ct tg fg tE aE qE pE aT aF dg fi lo wh rg hinv k u_tf u_ff w_cd w_tf w_ff h1 h2
  have hI := hinv
  obtain ⟨e1, e2, e3, e4, e5, hr, hc⟩ := hinv
  unfold R_constant at h1
  unfold M_constant at h2
  have h0 : (0 : Int32).toInt = 0 := rfl
  have h6 : (6 : Int32).toInt = 6 := rfl
  have h7 : (7 : Int32).toInt = 7 := rfl
  have n2 : ¬ (2 : Int32) ≤ 0 := by decide
  have y0 : (0 : Int32) ≤ 0 := by decide
  by_cases hn : R_need rg = true
  · rw [if_pos hn] at h1
    rw [if_pos (none_0 hn)] at h2
    by_cases c1 : wh < 0
    · rw [if_pos c1] at h1 h2
      rw [if_neg n2] at h2
      obtain ⟨a1, a⟩ := Prod.mk.inj h1
      obtain ⟨a2, a3⟩ := Prod.mk.inj a
      obtain ⟨b1, b⟩ := Prod.mk.inj h2
      obtain ⟨b2, b3⟩ := Prod.mk.inj b
      rw [← a1, ← a2, ← a3, ← b1, ← b2, ← b3]
      exact ⟨rfl, hI⟩
    · by_cases c2 : wh ≤ 6
      · have d1 : ¬ (7 : Int32) ≤ wh := by rw [ile, h7]; rw [ile, h6] at c2; omega
        have d2 : wh < 7 := by rw [ilt, h7]; rw [ile, h6] at c2; omega
        rw [if_neg c1, if_neg d1, if_pos d2] at h1
        rw [if_neg c1, if_pos c2, if_pos y0] at h2
        have h3 : (0, upd tf rg.toNatClampNeg (R_ktop wh), vp_updL ff rg.toNatClampNeg (R_kfrac wh)) = (k, u_tf, u_ff) := h1
        obtain ⟨a1, a⟩ := Prod.mk.inj h3
        obtain ⟨a2, a3⟩ := Prod.mk.inj a
        obtain ⟨b1, b⟩ := Prod.mk.inj h2
        obtain ⟨b2, b3⟩ := Prod.mk.inj b
        rw [← a1, ← a2, ← a3, ← b1, ← b2, ← b3]
        obtain ⟨j, hj, ej⟩ := nI_of2 (M := 6) (n := 6) rfl c1 c2
        rw [ej]
        refine ⟨rfl, e1, e2, e3, e4, e5, ?_, hc⟩
        match j, hj with
        | 0, _ => exact inv_write hr _ rfl rfl (by decide) (by decide)
        | 1, _ => exact inv_write hr _ rfl rfl (by decide) (by decide)
        | 2, _ => exact inv_write hr _ rfl rfl (by decide) (by decide)
        | 3, _ => exact inv_write hr _ rfl rfl (by decide) (by decide)
        | 4, _ => exact inv_write hr _ rfl rfl (by decide) (by decide)
        | 5, _ => exact inv_write hr _ rfl rfl (by decide) (by decide)
        | 6, _ => exact inv_write hr _ rfl rfl (by decide) (by decide)
        | n + 7, h => exact absurd h (by omega)
      · have d1 : (7 : Int32) ≤ wh := by rw [ile, h7]; rw [ile, h6] at c2; omega
        rw [if_neg c1, if_pos d1] at h1
        rw [if_neg c1, if_neg c2, if_neg n2] at h2
        obtain ⟨a1, a⟩ := Prod.mk.inj h1
        obtain ⟨a2, a3⟩ := Prod.mk.inj a
        obtain ⟨b1, b⟩ := Prod.mk.inj h2
        obtain ⟨b2, b3⟩ := Prod.mk.inj b
        rw [← a1, ← a2, ← a3, ← b1, ← b2, ← b3]
        exact ⟨rfl, hI⟩
  · rw [if_neg hn] at h1
    rw [if_neg (none_1 hn)] at h2
    obtain ⟨a1, a⟩ := Prod.mk.inj h1
    obtain ⟨a2, a3⟩ := Prod.mk.inj a
    obtain ⟨b1, b⟩ := Prod.mk.inj h2
    obtain ⟨b2, b3⟩ := Prod.mk.inj b
    rw [← a1, ← a2, ← a3, ← b1, ← b2, ← b3]
    exact ⟨rfl, hI⟩
