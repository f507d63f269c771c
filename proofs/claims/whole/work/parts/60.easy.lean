/-! the mathematics: the class's answers are the reference's -/
theorem bIt : ¬ bI true = 0 := by decide
theorem bIf : bI false = 0 := rfl
theorem s_control : S_control := by
  intro tf ff cw td an qb pa cd ct tg fg tE aE qE pE aT aF dg fi lo wd hinv k u_cw w_cd w_ct h1 h2
  obtain ⟨e1, e2, e3, e4, e5, hr, hc⟩ := hinv
  unfold R_control at h1
  unfold M_control at h2
  have h65 : (65535 : Int32).toInt = 65535 := rfl
  have h0 : (0 : Int32).toInt = 0 := rfl
  by_cases c1 : wd < 0
  · rw [if_pos c1] at h1 h2
    rw [if_neg bIt] at h2
    obtain ⟨a1, a2⟩ := Prod.mk.inj h1
    obtain ⟨b1, b2⟩ := Prod.mk.inj h2
    subst a1 a2 b1 b2
    exact ⟨rfl, e1, e2, e3, e4, e5, hr, hc⟩
  · by_cases c2 : wd ≤ 65535
    · rw [if_neg c1, if_pos c2] at h1 h2
      rw [if_pos bIf] at h2
      obtain ⟨a1, a2⟩ := Prod.mk.inj h1
      obtain ⟨b1, b2⟩ := Prod.mk.inj h2
      subst a1 a2 b1 b2
      rw [ilt, h0] at c1
      rw [ile, h65] at c2
      exact ⟨rfl, rfl, e2, e3, e4, e5, hr, by omega, c2⟩
    · rw [if_neg c1, if_neg c2] at h1 h2
      rw [if_neg bIt] at h2
      obtain ⟨a1, a2⟩ := Prod.mk.inj h1
      obtain ⟨b1, b2⟩ := Prod.mk.inj h2
      subst a1 a2 b1 b2
      exact ⟨rfl, e1, e2, e3, e4, e5, hr, hc⟩
theorem s_told : S_told := by
  intro tf ff cw td an qb pa cd ct tg fg tE aE qE pE aT aF dg fi lo wh hinv v k b w_cd h1 h2
  refine ⟨?_, ?_, hinv⟩
  all_goals
    obtain ⟨e1, e2, e3, e4, e5, hr, hc⟩ := hinv
    subst e2 e3 e4 e5
    unfold R_told at h1
    unfold M_told at h2
    have h0 : (0 : Int32).toInt = 0 := rfl
    have h3 : (3 : Int32).toInt = 3 := rfl
    have e0 : ¬ bI true ≤ 0 := by decide
    have e9 : bI false ≤ 0 := by decide
    by_cases c0 : wh = 0
    · subst c0
      rw [if_pos rfl] at h1
      obtain ⟨a1, a2⟩ := Prod.mk.inj h1
      obtain ⟨b1, b2⟩ := Prod.mk.inj h2
      subst a1 a2 b1 b2
      first | rfl | (intro _; rfl)
    · by_cases c1 : wh = 1
      · subst c1
        rw [if_neg c0, if_pos rfl] at h1
        obtain ⟨a1, a2⟩ := Prod.mk.inj h1
        obtain ⟨b1, b2⟩ := Prod.mk.inj h2
        subst a1 a2 b1 b2
        first | rfl | (intro _; cases aE <;> rfl)
      · by_cases c2 : wh = 2
        · subst c2
          rw [if_neg c0, if_neg c1, if_pos rfl] at h1
          obtain ⟨a1, a2⟩ := Prod.mk.inj h1
          obtain ⟨b1, b2⟩ := Prod.mk.inj h2
          subst a1 a2 b1 b2
          first | rfl | (intro _; rfl)
        · by_cases c3 : wh = 3
          · subst c3
            rw [if_neg c0, if_neg c1, if_neg c2, if_pos rfl] at h1
            obtain ⟨a1, a2⟩ := Prod.mk.inj h1
            obtain ⟨b1, b2⟩ := Prod.mk.inj h2
            subst a1 a2 b1 b2
            first | rfl | (intro _; cases pE <;> rfl)
          · rw [if_neg c0, if_neg c1, if_neg c2, if_neg c3] at h1
            have hx : (if wh < 0 then true else (if wh ≤ 3 then false else true)) = true := by
              by_cases d1 : wh < 0
              · rw [if_pos d1]
              · by_cases d2 : wh ≤ 3
                · exact absurd ((sw_out_0_3 c0 c1 c2 c3)) (by rw [ilt, h0] at d1; rw [ile, h3] at d2; omega)
                · rw [if_neg d1, if_neg d2]
            rw [hx, if_neg e0] at h2
            obtain ⟨a1, a2⟩ := Prod.mk.inj h1
            obtain ⟨b1, b2⟩ := Prod.mk.inj h2
            subst a1 a2 b1 b2
            first | rfl | (intro z; exact absurd z (by decide))
/-- the two ways to ask for a register -/
theorem none_need (r : Int32) : M_none r = !(R_need r) := by
  have h8 : (8 : Int32).toInt = 8 := rfl
  have h7 : (7 : Int32).toInt = 7 := rfl
  unfold M_none R_need
  by_cases c1 : r < 0
  · rw [if_pos c1, if_pos c1]; rfl
  · by_cases c2 : r ≤ 7
    · rw [if_neg c1, if_pos c2, if_neg c1, if_pos (by rw [ilt, h8]; rw [ile, h7] at c2; omega)]; rfl
    · rw [if_neg c1, if_neg c2, if_neg c1, if_neg (by rw [ilt, h8]; rw [ile, h7] at c2; omega)]; rfl
theorem none_0 {r : Int32} (h : R_need r = true) : bI (M_none r) = 0 := by rw [none_need, h]; rfl
theorem none_1 {r : Int32} (h : ¬ R_need r = true) : ¬ bI (M_none r) = 0 := by
  rw [none_need]
  cases hq : R_need r
  · decide
  · exact absurd hq h
theorem need_lt {r : Int32} (h : R_need r = true) : r.toNatClampNeg < 8 := Nat.not_le.mp fun q => R_need_in h (Or.inr q)
theorem upd_at (f : Nat → Int32) (k : Nat) (x : Int32) (j : Nat) : upd f k x j = if j = k then x else f j := rfl
theorem updL_at (f : Nat → Int64) (k : Nat) (x : Int64) (j : Nat) : vp_updL f k x j = if j = k then x else f j := rfl
/-- both registers' files are written alike -/
theorem inv_write {tf : Nat → Int32} {ff : Nat → Int64} {tg : Nat → Int32} {fg : Nat → Int64} (h : ∀ j : Nat, j < 8 → tg j = tf j ∧ fg j = ff j ∧ 0 ≤ (tf j).toInt ∧ (tf j).toInt ≤ 65535) (k : Nat) {t t' : Int32} {f f' : Int64} (ht : t' = t) (hf : f' = f) (h1 : 0 ≤ t.toInt) (h2 : t.toInt ≤ 65535) :
    ∀ j : Nat, j < 8 → upd tg k t' j = upd tf k t j ∧ vp_updL fg k f' j = vp_updL ff k f j ∧ 0 ≤ (upd tf k t j).toInt ∧ (upd tf k t j).toInt ≤ 65535 := by
  subst ht hf
  intro j hj
  rw [upd_at, upd_at, updL_at, updL_at]
  by_cases c : j = k
  · rw [if_pos c, if_pos c, if_pos c, if_pos c]; exact ⟨rfl, rfl, h1, h2⟩
  · rw [if_neg c, if_neg c, if_neg c, if_neg c]; exact h j hj
