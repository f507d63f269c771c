theorem hi32 (x : Int64) : (jlushr x 32).toInt32 = (jlshr x 32).toInt32 := by
  apply Int32.toBitVec_inj.mp
  rw [Int64.toBitVec_toInt32, Int64.toBitVec_toInt32]
  have e1 : (jlushr x 32).toBitVec = x.toBitVec >>> (32 : Nat) := rfl
  have e2 : (jlshr x 32).toBitVec = x.toBitVec.sshiftRight 32 := rfl
  rw [e1, e2]
  apply BitVec.eq_of_getLsbD_eq
  intro i hi
  rw [BitVec.getLsbD_signExtend, BitVec.getLsbD_signExtend, BitVec.getLsbD_ushiftRight, BitVec.getLsbD_sshiftRight]
  have h1 : i < 64 := by omega
  have h2 : ¬ 64 ≤ i := by omega
  have h3 : 32 + i < 64 := by omega
  simp [hi, h1, h2, h3]
theorem s_part : S_part := by
  intro tf ff cw td an qb pa cd ct tg fg tE aE qE pE aT aF dg fi lo rg wh hinv v k b w_cd h1 h2
  have hI := hinv
  obtain ⟨e1, e2, e3, e4, e5, hr, hc⟩ := hinv
  unfold R_part at h1
  unfold M_part at h2
  have h0 : (0 : Int32).toInt = 0 := rfl
  have h22 : (2 : Int32).toInt = 2 := rfl
  by_cases hn : R_need rg = true
  · obtain ⟨g1, g2, g3, g4⟩ := hr _ (need_lt hn)
    rw [if_pos hn] at h1
    rw [if_pos (none_0 hn), g1, g2] at h2
    by_cases c0 : wh = 0
    · subst c0
      obtain ⟨a1, a2⟩ := Prod.mk.inj h1
      obtain ⟨b1, b2⟩ := Prod.mk.inj h2
      exact ⟨by rw [← b2, ← a2]; rfl, fun _ => by rw [← a1, ← b1]; rfl, hI⟩
    · by_cases c1 : wh = 1
      · subst c1
        obtain ⟨a1, a2⟩ := Prod.mk.inj h1
        obtain ⟨b1, b2⟩ := Prod.mk.inj h2
        refine ⟨by rw [← b2, ← a2]; rfl, fun _ => ?_, hI⟩
        rw [← a1, ← b1]
        exact hi32 _
      · by_cases c2 : wh = 2
        · subst c2
          obtain ⟨a1, a2⟩ := Prod.mk.inj h1
          obtain ⟨b1, b2⟩ := Prod.mk.inj h2
          exact ⟨by rw [← b2, ← a2]; rfl, fun _ => by rw [← a1, ← b1]; rfl, hI⟩
        · rw [if_neg c0, if_neg c1, if_neg c2] at h1
          have hx : (if wh < 0 then (2 : Int32) else (if wh ≤ 2 then (0 : Int32) else (2 : Int32))) = 2 := by
            by_cases d1 : wh < 0
            · rw [if_pos d1]
            · by_cases d2 : wh ≤ 2
              · exact absurd (sw_out_0_2 c0 c1 c2) (by rw [ilt, h0] at d1; rw [ile, h22] at d2; omega)
              · rw [if_neg d1, if_neg d2]
          rw [hx, if_neg (by decide)] at h2
          obtain ⟨a1, a2⟩ := Prod.mk.inj h1
          obtain ⟨b1, b2⟩ := Prod.mk.inj h2
          exact ⟨by rw [← b2, ← a2], fun _ => by rw [← a1, ← b1], hI⟩
  · rw [if_neg hn] at h1
    rw [if_neg (none_1 hn)] at h2
    obtain ⟨a1, a2⟩ := Prod.mk.inj h1
    obtain ⟨b1, b2⟩ := Prod.mk.inj h2
    exact ⟨by rw [← b2, ← a2], fun _ => by rw [← a1, ← b1], hI⟩
