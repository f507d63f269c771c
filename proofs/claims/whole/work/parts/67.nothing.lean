theorem nothing_eq {t : Int32} (h1 : 0 ≤ t.toInt) (h2 : t.toInt ≤ 65535) (f : Int64) : M_nothing t f = R_nought t f := by
  unfold M_nothing R_nought
  rw [kind_eq h1 h2]
  by_cases c : f = 0
  · unfold R_kind
    have z : ¬ f < 0 := by rw [c]; decide
    have w : jlshl f 1 = 0 := (dbl_0 f).mpr (Or.inl c)
    by_cases p0 : R_pow t = 0
    · have p7 : ¬ R_pow t = 32767 := by rw [p0]; decide
      simp only [if_pos p0, if_neg p7, if_pos c]; rfl
    · by_cases p7 : R_pow t = 32767
      · simp only [if_neg p0, if_pos p7, if_pos c, if_pos w]; rfl
      · simp only [if_neg p0, if_neg p7, if_pos c, if_neg z]; rfl
  · rw [if_neg c, if_neg c]
    by_cases d : (3 : Int32) ≤ nI (R_kind t f)
    · rw [if_pos d]
    · rw [if_neg d]
