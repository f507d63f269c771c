/-- a top that has been turned -/
theorem turn_n {a : Nat} (ha : a < 65536) : nI a ^^^ 32768 = (if nI a ≤ 32767 then nI a + 32768 else nI a - 32768) := by
  have e : nI a ≤ 32767 ↔ a ≤ 32767 := nI_leI (b := 32767) (by omega) (by decide)
  have ex : nI a ^^^ (32768 : Int32) = nI (a ^^^ 32768) := nx_xor a 32768
  rw [ex]
  by_cases c : a ≤ 32767
  · rw [if_pos (e.mpr c)]
    have h2 : nI a + (32768 : Int32) = nI (a + 32768) := nI_add a 32768
    rw [h2]
    refine congrArg nI ?_
    apply Nat.eq_of_testBit_eq
    intro i
    have hh := Nat.two_pow_add_eq_or_of_lt (i := 15) (b := a) (by omega : a < 2 ^ 15) 1
    have h3 : a + 32768 = 2 ^ 15 * 1 ||| a := by rw [← hh]; omega
    rw [h3, Nat.testBit_xor, Nat.testBit_or]
    have h4 : (32768 : Nat) = 2 ^ 15 * 1 := rfl
    rw [h4]
    by_cases hi : i = 15
    · subst hi
      have h5 : a.testBit 15 = false := Nat.testBit_lt_two_pow (by omega)
      rw [h5]
      cases (2 ^ 15 * 1).testBit 15 <;> rfl
    · have h6 : (2 ^ 15 * 1 : Nat).testBit i = false := by
        rw [Nat.mul_one, Nat.testBit_two_pow]
        exact decide_eq_false (fun z => hi z.symm)
      rw [h6]
      cases a.testBit i <;> rfl
  · rw [if_neg (fun z => c (e.mp z))]
    have h2 : nI a - (32768 : Int32) = nI (a - 32768) := pk_sub (b := 32768) (by omega)
    rw [h2]
    refine congrArg nI ?_
    apply Nat.eq_of_testBit_eq
    intro i
    have hh := Nat.two_pow_add_eq_or_of_lt (i := 15) (b := a - 32768) (by omega : a - 32768 < 2 ^ 15) 1
    have h3 : a = 2 ^ 15 * 1 ||| (a - 32768) := by rw [← hh]; omega
    rw [Nat.testBit_xor]
    have h4 : a.testBit i = ((2 ^ 15 * 1 : Nat).testBit i || (a - 32768).testBit i) := by
      have := congrArg (fun z => Nat.testBit z i) h3
      simp only [Nat.testBit_or] at this
      exact this
    have h5 : (32768 : Nat).testBit i = (2 ^ 15 * 1 : Nat).testBit i := rfl
    rw [h4, h5]
    by_cases hi : i = 15
    · subst hi
      have h6 : (a - 32768).testBit 15 = false := Nat.testBit_lt_two_pow (by omega)
      rw [h6]
      cases (2 ^ 15 * 1).testBit 15 <;> rfl
    · have h6 : (2 ^ 15 * 1 : Nat).testBit i = false := by
        rw [Nat.mul_one, Nat.testBit_two_pow]
        exact decide_eq_false (fun z => hi z.symm)
      rw [h6]
      cases (a - 32768).testBit i <;> rfl
theorem and_n {a : Nat} (ha : a < 65536) : nI a &&& (-32769) = (if nI a ≤ 32767 then nI a else nI a - 32768) := by
  have e : nI a ≤ 32767 ↔ a ≤ 32767 := nI_leI (b := 32767) (by omega) (by decide)
  have em : (-32769 : Int32) = nI 4294934527 := rfl
  have ex : nI a &&& (-32769 : Int32) = nI (a &&& 4294934527) := by rw [em]; exact fa_and a 4294934527
  have hb : ∀ i : Nat, i < 32 → (4294934527 : Nat).testBit i = decide (i ≠ 15) := by decide
  rw [ex]
  by_cases c : a ≤ 32767
  · rw [if_pos (e.mpr c)]
    refine congrArg nI ?_
    apply Nat.eq_of_testBit_eq
    intro i
    rw [Nat.testBit_and]
    by_cases hi : i < 15
    · rw [hb i (by omega), decide_eq_true (by omega : i ≠ 15), Bool.and_true]
    · have h6 : a.testBit i = false := Nat.testBit_lt_two_pow (Nat.lt_of_lt_of_le (by omega : a < 2 ^ 15) (Nat.pow_le_pow_right (by decide) (by omega)))
      rw [h6]; rfl
  · rw [if_neg (fun z => c (e.mp z))]
    have h2 : nI a - (32768 : Int32) = nI (a - 32768) := pk_sub (b := 32768) (by omega)
    rw [h2]
    refine congrArg nI ?_
    apply Nat.eq_of_testBit_eq
    intro i
    have hh := Nat.two_pow_add_eq_or_of_lt (i := 15) (b := a - 32768) (by omega : a - 32768 < 2 ^ 15) 1
    have h3 : a = 2 ^ 15 * 1 ||| (a - 32768) := by rw [← hh]; omega
    have h4 : a.testBit i = ((2 ^ 15 * 1 : Nat).testBit i || (a - 32768).testBit i) := by
      have := congrArg (fun z => Nat.testBit z i) h3
      simp only [Nat.testBit_or] at this
      exact this
    rw [Nat.testBit_and, h4]
    by_cases hi : i < 15
    · have h6 : (2 ^ 15 * 1 : Nat).testBit i = false := by
        rw [Nat.mul_one, Nat.testBit_two_pow]
        exact decide_eq_false (by omega)
      rw [hb i (by omega), decide_eq_true (by omega : i ≠ 15), h6]
      cases (a - 32768).testBit i <;> rfl
    · have h7 : (a - 32768).testBit i = false := Nat.testBit_lt_two_pow (Nat.lt_of_lt_of_le (by omega : a - 32768 < 2 ^ 15) (Nat.pow_le_pow_right (by decide) (by omega)))
      rw [h7]
      by_cases hj : i = 15
      · subst hj
        rw [hb 15 (by decide)]
        cases (2 ^ 15 * 1 : Nat).testBit 15 <;> rfl
      · have h6 : (2 ^ 15 * 1 : Nat).testBit i = false := by
          rw [Nat.mul_one, Nat.testBit_two_pow]
          exact decide_eq_false (fun z => hj z.symm)
        rw [h6]; rfl
