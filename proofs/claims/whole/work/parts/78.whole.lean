/-! the ends of steps -/
theorem out6 {α1 α2 α3 α4 α5 α6 : Type} {a1 b1 : α1} {a2 b2 : α2} {a3 b3 : α3} {a4 b4 : α4} {a5 b5 : α5} {a6 b6 : α6} (h : (a1, a2, a3, a4, a5, a6) = (b1, b2, b3, b4, b5, b6)) : b1 = a1 ∧ b2 = a2 ∧ b3 = a3 ∧ b4 = a4 ∧ b5 = a5 ∧ b6 = a6 := by
  cases h; exact ⟨rfl, rfl, rfl, rfl, rfl, rfl⟩
theorem out9 {α1 α2 α3 α4 α5 α6 β : Type} {a1 b1 : α1} {a2 b2 : α2} {a3 b3 : α3} {a4 b4 : α4} {a5 b5 : α5} {a6 b6 : α6} {a7 b7 : β} (h : (a1, a2, a3, a4, a5, a6, a7) = (b1, b2, b3, b4, b5, b6, b7)) : b1 = a1 ∧ b2 = a2 ∧ b3 = a3 ∧ b4 = a4 ∧ b5 = a5 ∧ b6 = a6 := by
  cases h; exact ⟨rfl, rfl, rfl, rfl, rfl, rfl⟩
theorem inv_set {tf : Nat → Int32} {ff : Nat → Int64} {cw td : Int32} {an : Bool} {qb : Int32} {pa : Bool} {ct : Int32} {tg : Nat → Int32} {fg : Nat → Int64} {tE : Int32} {aE : Bool} {qE : Int32} {pE : Bool} (h : INV tf ff cw td an qb pa ct tg fg tE aE qE pE) (k : Nat) {t : Int32} {f : Int64} (h1 : 0 ≤ t.toInt) (h2 : t.toInt ≤ 65535) (D : Int32) (A : Bool) : INV (upd tf k t) (vp_updL ff k f) cw D A qb pa ct (upd tg k t) (vp_updL fg k f) D A qE pE := by
  obtain ⟨e1, e2, e3, e4, e5, hr, hc⟩ := h
  exact ⟨e1, rfl, rfl, e4, e5, inv_write hr k rfl rfl h1 h2, hc⟩
theorem inv_tell {tf : Nat → Int32} {ff : Nat → Int64} {cw td : Int32} {an : Bool} {qb : Int32} {pa : Bool} {ct : Int32} {tg : Nat → Int32} {fg : Nat → Int64} {tE : Int32} {aE : Bool} {qE : Int32} {pE : Bool} (h : INV tf ff cw td an qb pa ct tg fg tE aE qE pE) (D : Int32) (A : Bool) : INV tf ff cw D A qb pa ct tg fg D A qE pE := by
  obtain ⟨e1, e2, e3, e4, e5, hr, hc⟩ := h
  exact ⟨e1, rfl, rfl, e4, e5, hr, hc⟩
theorem subst_rng {tx ty : Int32} {fx fy : Int64} (hx1 : 0 ≤ tx.toInt) (hx2 : tx.toInt ≤ 65535) (hy1 : 0 ≤ ty.toInt) (hy2 : ty.toInt ≤ 65535) {t : Int32} {f : Int64} (h : R_subst tx fx ty fy = (t, f)) : 0 ≤ t.toInt ∧ t.toInt ≤ 65535 := by
  by_cases hx : R_kind tx fx = 5
  · by_cases hy : R_kind ty fy = 5
    · rw [subst_55 hx hy] at h
      by_cases c : fx = fy
      · rw [if_pos c] at h
        by_cases d : bI (R_neg tx) = 0
        · rw [if_pos d] at h; cases h; exact ⟨hx1, hx2⟩
        · rw [if_neg d] at h; cases h; exact ⟨hy1, hy2⟩
      · rw [if_neg c] at h
        by_cases d : J_cmpU fx fy ≤ 0
        · rw [if_pos d] at h; cases h; exact ⟨hy1, hy2⟩
        · rw [if_neg d] at h; cases h; exact ⟨hx1, hx2⟩
    · rw [subst_5x hx hy] at h; cases h; exact ⟨hx1, hx2⟩
  · by_cases hy : R_kind ty fy = 5
    · rw [subst_x5 hx hy] at h; cases h; exact ⟨hy1, hy2⟩
    · rw [subst_xx hx hy] at h
      obtain ⟨a, b⟩ := Prod.mk.inj h
      rw [← a]
      decide
theorem keep_t {tf : Nat → Int32} {ff : Nat → Int64} {aT : Int32} {aF : Int64} {rg : Int32} : M_keep tf ff true aT aF rg = (upd tf rg.toNatClampNeg aT, vp_updL ff rg.toNatClampNeg aF) := by
  unfold M_keep
  rw [if_neg bIt]
theorem keep_f {tf : Nat → Int32} {ff : Nat → Int64} {aT : Int32} {aF : Int64} {rg : Int32} : M_keep tf ff false aT aF rg = (tf, ff) := by
  unfold M_keep
  rw [if_pos bIf]
theorem begin_e : M_begin = (0, false) := rfl
theorem read_e (t : Int32) (f : Int64) : R_read t f = (t, f) := rfl
theorem write_e (tf : Nat → Int32) (ff : Nat → Int64) (rg ty : Int32) (fy : Int64) : R_write tf ff rg ty fy = (upd tf rg.toNatClampNeg ty, vp_updL ff rg.toNatClampNeg fy) := rfl
theorem s_whole : S_whole := by
  intro tf ff cw td an qb pa cd ct tg fg tE aE qE pE aT aF dg fi lo ra rc hinv v k u_tf u_ff u_td u_an b w_cd w_tf w_ff w_td w_an w_aT w_aF w_lo h1 h2
  have hI := hinv
  obtain ⟨e1, e2, e3, e4, e5, hr, hc1, hc2⟩ := hinv
  unfold R_whole at h1
  unfold M_whole at h2
  by_cases hn : R_need ra = true
  · rw [if_pos hn] at h1
    rw [if_pos (none_0 hn)] at h2
    by_cases hw : R_need rc = true
    · obtain ⟨g1, g2, g3, g4⟩ := hr _ (need_lt hn)
      rw [if_pos hw, tup2_e (read_e _ _)] at h1
      rw [if_pos (none_0 hw), tup2_e begin_e, g1, g2, e1] at h2
      generalize tf ra.toNatClampNeg = t at h1 h2 g3 g4
      generalize ff ra.toNatClampNeg = f at h1 h2
      clear g1 g2
      obtain ⟨g, d, a, aT', aF', hg1, hg2, hd, hs, ht⟩ := goes1 hc1 hc2 g3 g4 (fx := f) (ty := t) (fy := f) (fun _ => ⟨rfl, rfl⟩) (fun q => q) aT aF false true (tg (-1 : Int32).toNatClampNeg) (fg (-1 : Int32).toNatClampNeg) (fun _ => rfl)
      rw [tup3_e hg1] at h1
      rw [tup5_e hg2] at h2
      cases g
      · rw [if_pos bIf] at h1 h2
        cases a
        · have h3 := h2
          rw [if_pos bIf] at h1
          rw [if_neg (by decide : ¬ false = true), tup2_e keep_f] at h2
          obtain ⟨a1, a2, a3, a4, a5, a6⟩ := out6 h1
          obtain ⟨b1, b2, b3, b4, b5, b6⟩ := out9 h2
          rw [a1, a2, a3, a4, a5, a6, b1, b2, b3, b4, b5, b6]
          exact ⟨rfl, fun _ => rfl, inv_tell hI _ _⟩
        · have hsub := hs rfl rfl
          obtain ⟨r1, r2⟩ := subst_rng g3 g4 g3 g4 hsub
          rw [if_neg bIt, tup2_e hsub, tup2_e (write_e _ _ _ _ _)] at h1
          rw [if_neg (by decide : ¬ false = true), tup2_e keep_t] at h2
          obtain ⟨a1, a2, a3, a4, a5, a6⟩ := out6 h1
          obtain ⟨b1, b2, b3, b4, b5, b6⟩ := out9 h2
          rw [a1, a2, a3, a4, a5, a6, b1, b2, b3, b4, b5, b6]
          exact ⟨rfl, fun _ => rfl, inv_set hI _ r1 r2 _ _⟩
      · obtain ⟨ha, hx5, _, _, _⟩ := ht rfl
        rw [ha, if_neg bIt] at h1
        rw [if_neg bIt, minus_neg g3 g4, unit_eq g3 g4] at h2
        have k4 := kindI g3 g4 f (k := 4) (K := 4) rfl (by decide)
        obtain ⟨r1, r2⟩ := unit_rng g3 g4
        by_cases hk : R_kind t f = 4
        · rw [tup3_e (whole_4 hk), tup2_e (write_e _ _ _ _ _)] at h1
          rw [if_pos (k4.mpr hk)] at h2
          have ea : M_answer t f = (true, t, f) := rfl
          rw [tup3_e ea, tup2_e keep_t] at h2
          obtain ⟨a1, a2, a3, a4, a5, a6⟩ := out6 h1
          obtain ⟨b1, b2, b3, b4, b5, b6⟩ := out9 h2
          rw [a1, a2, a3, a4, a5, a6, b1, b2, b3, b4, b5, b6]
          exact ⟨rfl, fun _ => rfl, inv_set hI _ g3 g4 _ _⟩
        · rw [if_neg (fun q => hk (k4.mp q))] at h2
          by_cases hu : R_unit t < 0
          · obtain ⟨y, c, hm, hwo⟩ := whole_neg hc1 hc2 g3 g4 hk d hu
            rw [if_pos hu, tup2_e hm] at h2
            rw [hwo] at h1
            have hd6 : d < 64 := by omega
            cases c
            · rw [if_neg (by decide : ¬ false = true)] at h1
              rw [if_pos bIf] at h2
              obtain ⟨T, F, d', lo', m1, m2, m3, m4, m5⟩ := make_eq hc1 hc2 hd6 false (R_neg t) y (un := 0) (by decide) (by decide)
              rw [tup3_e m1, tup2_e (write_e _ _ _ _ _)] at h1
              rw [tup5_e m2, tup2_e keep_t] at h2
              obtain ⟨a1, a2, a3, a4, a5, a6⟩ := out6 h1
              obtain ⟨b1, b2, b3, b4, b5, b6⟩ := out9 h2
              rw [a1, a2, a3, a4, a5, a6, b1, b2, b3, b4, b5, b6]
              exact ⟨rfl, fun _ => rfl, inv_set hI _ m3 m4 _ _⟩
            · rw [if_pos rfl] at h1
              have ht32 := tell_n hc1 hc2 hd6 (j := 5) (by decide) (b := 32) rfl
              rw [if_neg bIt, tup2_e ht32] at h2
              obtain ⟨T, F, d', lo', m1, m2, m3, m4, m5⟩ := make_eq hc1 hc2 (tell_lt d hd6 5 (by decide)) true (R_neg t) y (un := 0) (by decide) (by decide)
              rw [tup3_e m1, tup2_e (write_e _ _ _ _ _)] at h1
              rw [tup5_e m2, tup2_e keep_t] at h2
              obtain ⟨a1, a2, a3, a4, a5, a6⟩ := out6 h1
              obtain ⟨b1, b2, b3, b4, b5, b6⟩ := out9 h2
              rw [a1, a2, a3, a4, a5, a6, b1, b2, b3, b4, b5, b6]
              exact ⟨rfl, fun _ => rfl, inv_set hI _ m3 m4 _ _⟩
          · rw [whole_pos hc1 hc2 g3 g4 hk _ hu] at h1
            rw [if_neg hu] at h2
            obtain ⟨T, F, d', lo', m1, m2, m3, m4, m5⟩ := make_eq hc1 hc2 (by omega : d < 64) lo (R_neg t) f (un := R_unit t) (by omega) (by omega)
            rw [tup3_e m1, tup2_e (write_e _ _ _ _ _)] at h1
            rw [tup5_e m2, tup2_e keep_t] at h2
            obtain ⟨a1, a2, a3, a4, a5, a6⟩ := out6 h1
            obtain ⟨b1, b2, b3, b4, b5, b6⟩ := out9 h2
            rw [a1, a2, a3, a4, a5, a6, b1, b2, b3, b4, b5, b6]
            exact ⟨rfl, fun _ => rfl, inv_set hI _ m3 m4 _ _⟩
    · rw [if_neg hw] at h1
      rw [if_neg (none_1 hw)] at h2
      obtain ⟨a1, a2, a3, a4, a5, a6⟩ := out6 h1
      obtain ⟨b1, b2, b3, b4, b5, b6⟩ := out9 h2
      rw [a1, a2, a3, a4, a5, a6, b1, b2, b3, b4, b5, b6]
      exact ⟨rfl, fun _ => rfl, hI⟩
  · rw [if_neg hn] at h1
    rw [if_neg (none_1 hn)] at h2
    obtain ⟨a1, a2, a3, a4, a5, a6⟩ := out6 h1
    obtain ⟨b1, b2, b3, b4, b5, b6⟩ := out9 h2
    rw [a1, a2, a3, a4, a5, a6, b1, b2, b3, b4, b5, b6]
    exact ⟨rfl, fun _ => rfl, hI⟩
