/-! division, place by place -/
theorem dstep {Y : Nat} (hY : 0 < Y) (N b : Nat) : (2 * N + b) / Y = 2 * (N / Y) + (2 * (N % Y) + b) / Y ∧ (2 * N + b) % Y = (2 * (N % Y) + b) % Y := by
  have h := Nat.div_add_mod N Y
  have e : 2 * N + b = Y * (2 * (N / Y)) + (2 * (N % Y) + b) := by
    have h2 : Y * (2 * (N / Y)) = 2 * (Y * (N / Y)) := by rw [← Nat.mul_assoc, Nat.mul_comm Y 2, Nat.mul_assoc]
    rw [h2]
    omega
  rw [e]
  exact ⟨Nat.mul_add_div hY _ _, Nat.mul_add_mod _ _ _⟩
theorem dsmall {Y m : Nat} (hm : m < 2 * Y) : (Y ≤ m → m / Y = 1 ∧ m % Y = m - Y) ∧ (¬ Y ≤ m → m / Y = 0 ∧ m % Y = m) := by
  constructor
  · intro h
    have h1 : m % Y = m - Y := by rw [Nat.mod_eq_sub_mod h, Nat.mod_eq_of_lt (by omega)]
    have h2 : m / Y = 1 := Nat.div_eq_of_lt_le (by omega) (by omega)
    exact ⟨h2, h1⟩
  · intro h
    exact ⟨Nat.div_eq_of_lt (by omega), Nat.mod_eq_of_lt (by omega)⟩
theorem q8 : ∀ q, q < 8 → ((nI q <<< ((1 : Int32) &&& 31)) &&& 7) = nI ((2 * q + 0) % 8) ∧ (((nI q <<< ((1 : Int32) &&& 31)) &&& 7) ||| 1) = nI ((2 * q + 1) % 8) := by decide +kernel
theorem divL_n {X Y S : Nat} (hY0 : 0 < Y) (hY : Y < 2 ^ 64) (hS : S < 100) : ∀ (n k : Nat), k ≤ S → S - k < n → R_divL (lN Y) (nI S) n (lN (X * 2 ^ k % Y)) (nI (X * 2 ^ k / Y % 8)) (nI k) = (lN (X * 2 ^ S % Y), nI (X * 2 ^ S / Y % 8), nI S)
  | 0, k, h1, h2 => absurd h2 (by omega)
  | n + 1, k, h1, h2 => by
    have e1 : nI S ≤ nI k ↔ S ≤ k := nI_leI (by omega) (by omega)
    rw [R_divL_S]
    by_cases c : S ≤ k
    · have : k = S := by omega
      rw [if_pos (e1.mpr c), this]
    · rw [if_neg (fun q => c (e1.mp q))]
      have ih := divL_n (X := X) hY0 hY hS n (k + 1) (by omega) (by omega)
      have hx : X * 2 ^ (k + 1) = 2 * (X * 2 ^ k) + 0 := by rw [Nat.pow_succ, ← Nat.mul_assoc, Nat.mul_comm]; rfl
      obtain ⟨d1, d2⟩ := dstep hY0 (X * 2 ^ k) 0
      rw [hx, d1, d2] at ih
      have hr : X * 2 ^ k % Y < Y := Nat.mod_lt _ hY0
      have hq8 := q8 (X * 2 ^ k / Y % 8) (Nat.mod_lt _ (by decide))
      generalize X * 2 ^ k % Y = r at ih hr
      generalize X * 2 ^ k / Y = q at ih hq8
      obtain ⟨u1, u2⟩ := dsmall (Y := Y) (m := 2 * r + 0) (by omega)
      have hdb : jlshl (lN r) 1 = lN (r * 2 ^ 1) := wb_shl (k := 1) r (by decide)
      have hr2 : r * 2 ^ 1 = 2 * r + 0 := by omega
      rw [hr2] at hdb
      have hq0 : (2 * q + 0) % 8 = (2 * (q % 8) + 0) % 8 := by omega
      have hq1 : (2 * q + 1) % 8 = (2 * (q % 8) + 1) % 8 := by omega
      rw [hdb, hq8.2, hq8.1, nI_1]
      have hng : (if lN r < 0 then true else false) = decide (2 ^ 63 ≤ r) := by
        by_cases g : 2 ^ 63 ≤ r
        · rw [if_pos ((neg_L (by omega)).mpr g), decide_eq_true g]
        · rw [if_neg (fun z => g ((neg_L (by omega)).mp z)), decide_eq_false g]
      rw [hng]
      by_cases g : 2 ^ 63 ≤ r
      · obtain ⟨v1, v2⟩ := u1 (by omega)
        rw [decide_eq_true g, if_neg bIt, lN_sub (by omega)]
        rw [v1, v2, hq1] at ih
        exact ih
      · rw [decide_eq_false g, if_pos bIf]
        have hc := cmpU_lt (a := 2 * r + 0) (b := Y) (by omega) hY
        by_cases l : 2 * r + 0 < Y
        · obtain ⟨v1, v2⟩ := u2 (by omega)
          rw [if_pos (hc.mpr l)]
          rw [v1, v2, hq0] at ih
          exact ih
        · obtain ⟨v1, v2⟩ := u1 (by omega)
          rw [if_neg (fun z => l (hc.mp z)), lN_sub (by omega)]
          rw [v1, v2, hq1] at ih
          exact ih
theorem divide_n {X Y S : Nat} (hX1 : 2 ^ 63 ≤ X) (hX2 : X < 2 ^ 64) (hY1 : 2 ^ 63 ≤ Y) (hY2 : Y < 2 ^ 64) (hS : S < 100) : R_divide (lN X) (lN Y) (nI S) = (lN (X * 2 ^ S % Y), nI (X * 2 ^ S / Y % 8)) := by
  have hf : ((nI S).toInt.toNat + 1) = S + 1 := by rw [nI_toInt (by omega)]; rfl
  have hl := divL_n (X := X) (Y := Y) (S := S) (by omega) hY2 hS (S + 1) 0 (by omega) (by omega)
  have i0 : nI 0 = 0 := rfl
  have hx0 : X * 2 ^ 0 = X := by rw [Nat.pow_zero, Nat.mul_one]
  rw [hx0] at hl
  unfold R_divide
  rw [hf]
  have hc := cmpU_lt hX2 hY2
  obtain ⟨u1, u2⟩ := dsmall (Y := Y) (m := X) (by omega)
  by_cases l : X < Y
  · obtain ⟨v1, v2⟩ := u2 (by omega)
    rw [v1, v2, i0] at hl
    have hl2 : R_divL (lN Y) (nI S) (S + 1) (lN X) 0 0 = (lN (X * 2 ^ S % Y), nI (X * 2 ^ S / Y % 8), nI S) := hl
    rw [if_pos (hc.mpr l), tup3_e hl2]
  · obtain ⟨v1, v2⟩ := u1 (by omega)
    rw [v1, v2, i0] at hl
    have hl2 : R_divL (lN Y) (nI S) (S + 1) (lN (X - Y)) 1 0 = (lN (X * 2 ^ S % Y), nI (X * 2 ^ S / Y % 8), nI S) := hl
    rw [if_neg (fun z => l (hc.mp z)), lN_sub (by omega), tup3_e hl2]
/-- the first k places of X and of noughts behind it -/
def Q_N (X k : Nat) : Nat := if k ≤ 64 then X / 2 ^ (64 - k) else X * 2 ^ (k - 64)
def Q_b (X k : Nat) : Nat := if k < 64 then X / 2 ^ (63 - k) % 2 else 0
theorem Q_N_S (X k : Nat) : Q_N X (k + 1) = 2 * Q_N X k + Q_b X k := by
  unfold Q_N Q_b
  by_cases c : k < 64
  · have e4 : 64 - k = (63 - k) + 1 := by omega
    have e5 : 64 - (k + 1) = 63 - k := by omega
    rw [if_pos (by omega), if_pos (by omega), if_pos c, e5, e4, Nat.pow_succ, ← Nat.div_div_eq_div_mul]
    omega
  · rw [if_neg (by omega), if_neg c]
    by_cases d : k ≤ 64
    · have : k = 64 := by omega
      subst this
      have e1 : 64 + 1 - 64 = 1 := rfl
      have e2 : 64 - 64 = 0 := rfl
      rw [if_pos (by omega), e1, e2, Nat.pow_zero, Nat.div_one]
      omega
    · have e1 : k + 1 - 64 = (k - 64) + 1 := by omega
      rw [if_neg d, e1, Nat.pow_succ, ← Nat.mul_assoc]
      omega
theorem Q_b_lt (X k : Nat) : Q_b X k < 2 := by
  unfold Q_b
  by_cases c : k < 64
  · rw [if_pos c]; omega
  · rw [if_neg c]; omega
theorem bit_L {X k : Nat} (hk : k < 1000) : (if (64 : Int32) ≤ nI k then (0 : Int64) else (if jlshl (lN X) (nI k) < 0 then (1 : Int64) else (0 : Int64))) = lN (Q_b X k) := by
  have e1 : (64 : Int32) ≤ nI k ↔ 64 ≤ k := nI_leI (a := 64) (by decide) (by omega)
  unfold Q_b
  by_cases c : k < 64
  · have hs := shl_neg (X := X) c
    rw [if_neg (fun q => by have := e1.mp q; omega), if_pos c]
    by_cases d : X / 2 ^ (63 - k) % 2 = 1
    · rw [if_pos (hs.mpr d), d]; rfl
    · rw [if_neg (fun q => d (hs.mp q))]
      have : X / 2 ^ (63 - k) % 2 = 0 := by omega
      rw [this]; rfl
  · rw [if_pos (e1.mpr (by omega)), if_neg c]; rfl
theorem quo8 (q c : Nat) (hc : c < 2) (C : Bool) (hC : bI C = nI c) : ((2 * nI (q % 8)) + bI C) - ((2 * nI (q % 8)) + bI C) / 8 * 8 = nI ((2 * q + c) % 8) := by
  have m2 : 2 * nI (q % 8) = nI (2 * (q % 8)) := pk_mul 2 _
  have e := pk_rem (a := 2 * (q % 8) + c) (d := 8) (by omega) (by decide) (by decide)
  have e8 : (8 : Int32) = nI 8 := rfl
  rw [m2, hC, nI_add, e8, e]
  refine congrArg nI ?_
  omega
theorem dvL_n {X Y S : Nat} (hY0 : 0 < Y) (hY : Y < 2 ^ 64) (hS : S < 100) : ∀ (n k : Nat), k ≤ 64 + S → 64 + S - k < n → M_dvL (lN X) (lN Y) (nI S) n (nI (Q_N X k / Y % 8)) (lN (Q_N X k % Y)) (nI k) = (nI (Q_N X (64 + S) / Y % 8), lN (Q_N X (64 + S) % Y), nI (64 + S))
  | 0, k, h1, h2 => absurd h2 (by omega)
  | n + 1, k, h1, h2 => by
    have e0 : (64 : Int32) + nI S = nI (64 + S) := nI_add 64 S
    have e1 : nI (64 + S) ≤ nI k ↔ 64 + S ≤ k := nI_leI (by omega) (by omega)
    rw [M_dvL_S, e0]
    by_cases c : 64 + S ≤ k
    · have : k = 64 + S := by omega
      rw [if_pos (e1.mpr c), this]
    · rw [if_neg (fun q => c (e1.mp q))]
      have ih := dvL_n (X := X) hY0 hY hS n (k + 1) (by omega) (by omega)
      obtain ⟨d1, d2⟩ := dstep hY0 (Q_N X k) (Q_b X k)
      rw [Q_N_S, d1, d2] at ih
      have hr : Q_N X k % Y < Y := Nat.mod_lt _ hY0
      have hb := Q_b_lt X k
      rw [bit_L (by omega), nI_1]
      generalize Q_b X k = b at ih hb
      generalize Q_N X k % Y = r at ih hr
      generalize Q_N X k / Y = q at ih
      obtain ⟨u1, u2⟩ := dsmall (Y := Y) (m := 2 * r + b) (by omega)
      rw [dbl_n, lN_add]
      have hng : (if lN r < 0 then true else false) = decide (2 ^ 63 ≤ r) := by
        by_cases g : 2 ^ 63 ≤ r
        · rw [if_pos ((neg_L (by omega)).mpr g), decide_eq_true g]
        · rw [if_neg (fun z => g ((neg_L (by omega)).mp z)), decide_eq_false g]
      have hC : (if bI (if lN r < 0 then true else false) = 0 then (if bI (M_less (lN (2 * r + b)) (lN Y)) = 0 then true else false) else true) = decide (Y ≤ 2 * r + b) := by
        rw [hng]
        by_cases g : 2 ^ 63 ≤ r
        · rw [decide_eq_true g, if_neg bIt, decide_eq_true (by omega)]
        · rw [decide_eq_false g, if_pos bIf, less_n (by omega) hY]
          by_cases l : 2 * r + b < Y
          · rw [decide_eq_true l, if_neg bIt, decide_eq_false (by omega)]
          · rw [decide_eq_false l, if_pos bIf, decide_eq_true (by omega)]
      rw [hC]
      by_cases l : Y ≤ 2 * r + b
      · obtain ⟨v1, v2⟩ := u1 l
        rw [decide_eq_true l, if_neg bIt, quo8 q 1 (by decide) true rfl, lN_sub l]
        rw [v1, v2] at ih
        exact ih
      · obtain ⟨v1, v2⟩ := u2 l
        rw [decide_eq_false l, if_pos bIf, quo8 q 0 (by decide) false rfl]
        rw [v1, v2] at ih
        exact ih
theorem dvL_all {X Y S : Nat} (hX2 : X < 2 ^ 64) (hY0 : 0 < Y) (hY : Y < 2 ^ 64) (hS : S < 100) : M_dvL (lN X) (lN Y) (nI S) ((64 + nI S).toInt.toNat + 1) 0 0 0 = (nI (X * 2 ^ S / Y % 8), lN (X * 2 ^ S % Y), nI (64 + S)) := by
  have e0 : (64 : Int32) + nI S = nI (64 + S) := nI_add 64 S
  have hf : ((nI (64 + S)).toInt.toNat + 1) = 64 + S + 1 := by rw [nI_toInt (by omega)]; rfl
  have hl := dvL_n (X := X) hY0 hY hS (64 + S + 1) 0 (by omega) (by omega)
  have n0 : Q_N X 0 = 0 := by
    unfold Q_N
    rw [if_pos (by omega)]
    exact Nat.div_eq_of_lt hX2
  have nS : Q_N X (64 + S) = X * 2 ^ S := by
    unfold Q_N
    by_cases c : 64 + S ≤ 64
    · have : S = 0 := by omega
      subst this
      rw [if_pos c, Nat.pow_zero, Nat.mul_one]
      exact Nat.div_one X
    · have : 64 + S - 64 = S := by omega
      rw [if_neg c, this]
  rw [n0, nS, Nat.zero_div, Nat.zero_mod] at hl
  rw [e0, hf]
  exact hl
