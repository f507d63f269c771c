/-! leading zeros -/
theorem jsh1 {a : Nat} (h : a < 2147483648) : jiushr (nI a) 1 = nI (a / 2) := pk_ushrN (by omega) 1 1 (by decide)
theorem jsh2 {a : Nat} (h : a < 2147483648) : jiushr (nI a) 2 = nI (a / 4) := pk_ushrN (by omega) 2 2 (by decide)
theorem jsh4 {a : Nat} (h : a < 2147483648) : jiushr (nI a) 4 = nI (a / 16) := pk_ushrN (by omega) 4 4 (by decide)
theorem jsh8 {a : Nat} (h : a < 2147483648) : jiushr (nI a) 8 = nI (a / 256) := pk_ushrN (by omega) 8 8 (by decide)
theorem jsh16 {a : Nat} (h : a < 2147483648) : jiushr (nI a) 16 = nI (a / 65536) := pk_ushrN (by omega) 16 16 (by decide)
theorem jlt4 {a : Nat} (h : a < 2147483648) : (nI a < 4) = (a < 4) := propext (nI_ltI (b := 4) (by omega) (by decide))
theorem jlt16 {a : Nat} (h : a < 2147483648) : (nI a < 16) = (a < 16) := propext (nI_ltI (b := 16) (by omega) (by decide))
theorem jlt256 {a : Nat} (h : a < 2147483648) : (nI a < 256) = (a < 256) := propext (nI_ltI (b := 256) (by omega) (by decide))
theorem jlt65536 {a : Nat} (h : a < 2147483648) : (nI a < 65536) = (a < 65536) := propext (nI_ltI (b := 65536) (by omega) (by decide))
theorem nz_leaf {n c q : Nat} (C : Int32) (hC : C = nI c) (k : Nat) (hc : c + k = 31) (h0 : 1 ≤ c) (h1 : 2 ^ k ≤ n) (h2 : n < 2 ^ (k + 2)) (hq : q = n / 2 ^ (k + 1)) : ∃ z, z < 32 ∧ C - nI q = nI z ∧ 2 ^ 31 ≤ n * 2 ^ z ∧ n * 2 ^ z < 2 ^ 32 := by
  subst hC
  have p1 : (2 : Nat) ^ (k + 1) = 2 * 2 ^ k := by rw [Nat.pow_succ]; omega
  have p2 : (2 : Nat) ^ (k + 2) = 4 * 2 ^ k := by rw [Nat.pow_succ, p1]; omega
  have pc : 2 ^ k * 2 ^ c = 2 ^ 31 := by rw [← Nat.pow_add]; refine congrArg _ ?_; omega
  have hp : 0 < 2 ^ k := Nat.two_pow_pos k
  by_cases hh : n < 2 ^ (k + 1)
  · have q0 : q = 0 := by rw [hq]; exact Nat.div_eq_of_lt hh
    refine ⟨c, by omega, by rw [q0]; exact pk_sub (by omega), ?_, ?_⟩
    · rw [← pc]; exact Nat.mul_le_mul_right _ h1
    · have : n * 2 ^ c < 2 ^ (k + 1) * 2 ^ c := Nat.mul_lt_mul_of_pos_right hh (Nat.two_pow_pos c)
      rw [p1, Nat.mul_assoc, pc] at this
      omega
  · have q1 : q = 1 := by
      rw [hq]
      refine Nat.div_eq_of_lt_le ?_ ?_
      · omega
      · rw [p1]; omega
    obtain ⟨d, rfl⟩ : ∃ d, c = d + 1 := ⟨c - 1, by omega⟩
    have pd : 2 ^ k * 2 ^ d * 2 = 2 ^ 31 := by rw [Nat.mul_assoc, ← Nat.pow_succ, pc]
    refine ⟨d, by omega, by rw [q1]; exact pk_sub (b := 1) (by omega), ?_, ?_⟩
    · have : 2 ^ (k + 1) * 2 ^ d ≤ n * 2 ^ d := Nat.mul_le_mul_right _ (by omega)
      rw [p1, Nat.mul_assoc] at this
      omega
    · have : n * 2 ^ d < 2 ^ (k + 2) * 2 ^ d := Nat.mul_lt_mul_of_pos_right h2 (Nat.two_pow_pos d)
      rw [p2, Nat.mul_assoc] at this
      omega
theorem nlz32_p {n : Nat} (h0 : 0 < n) (h : n < 2147483648) : ∃ z, z < 32 ∧ J_nlz32 (nI n) = nI z ∧ 2 ^ 31 ≤ n * 2 ^ z ∧ n * 2 ^ z < 2 ^ 32 := by
  have hp : (0 : Int32) < nI n := by rw [ilt, nI_toInt h]; exact Int.ofNat_lt.mpr h0
  unfold J_nlz32
  rw [if_pos hp]
  have d1 : n / 2 < 2147483648 := by omega
  have d2 : n / 4 < 2147483648 := by omega
  have d4 : n / 16 < 2147483648 := by omega
  have d8 : n / 256 < 2147483648 := by omega
  have dg : n / 65536 < 2147483648 := by omega
  have d42 : n / 16 / 4 < 2147483648 := by omega
  have d84 : n / 256 / 16 < 2147483648 := by omega
  have d82 : n / 256 / 4 < 2147483648 := by omega
  have d842 : n / 256 / 16 / 4 < 2147483648 := by omega
  have dg8 : n / 65536 / 256 < 2147483648 := by omega
  have dg4 : n / 65536 / 16 < 2147483648 := by omega
  have dg2 : n / 65536 / 4 < 2147483648 := by omega
  have dg42 : n / 65536 / 16 / 4 < 2147483648 := by omega
  have dg84 : n / 65536 / 256 / 16 < 2147483648 := by omega
  have dg82 : n / 65536 / 256 / 4 < 2147483648 := by omega
  have dg842 : n / 65536 / 256 / 16 / 4 < 2147483648 := by omega
  simp only [jsh1, jsh2, jsh4, jsh8, jsh16, jlt4, jlt16, jlt256, jlt65536, h, d1, d2, d4, d8, dg, d42, d84, d82, d842, dg8, dg4, dg2, dg42, dg84, dg82, dg842]
  by_cases c1 : n < 65536
  · by_cases c2 : n < 256
    · by_cases c3 : n < 16
      · by_cases c4 : n < 4
        · simp only [if_pos c1, if_pos c2, if_pos c3, if_pos c4]
          exact nz_leaf 31 rfl 0 rfl (by decide) (by omega) (by omega) (by omega)
        · simp only [if_pos c1, if_pos c2, if_pos c3, if_neg c4]
          exact nz_leaf 29 rfl 2 rfl (by decide) (by omega) (by omega) (by omega)
      · by_cases c4 : n / 16 < 4
        · simp only [if_pos c1, if_pos c2, if_neg c3, if_pos c4]
          exact nz_leaf 27 rfl 4 rfl (by decide) (by omega) (by omega) (by omega)
        · simp only [if_pos c1, if_pos c2, if_neg c3, if_neg c4]
          exact nz_leaf 25 rfl 6 rfl (by decide) (by omega) (by omega) (by omega)
    · by_cases c3 : n / 256 < 16
      · by_cases c4 : n / 256 < 4
        · simp only [if_pos c1, if_neg c2, if_pos c3, if_pos c4]
          exact nz_leaf 23 rfl 8 rfl (by decide) (by omega) (by omega) (by omega)
        · simp only [if_pos c1, if_neg c2, if_pos c3, if_neg c4]
          exact nz_leaf 21 rfl 10 rfl (by decide) (by omega) (by omega) (by omega)
      · by_cases c4 : n / 256 / 16 < 4
        · simp only [if_pos c1, if_neg c2, if_neg c3, if_pos c4]
          exact nz_leaf 19 rfl 12 rfl (by decide) (by omega) (by omega) (by omega)
        · simp only [if_pos c1, if_neg c2, if_neg c3, if_neg c4]
          exact nz_leaf 17 rfl 14 rfl (by decide) (by omega) (by omega) (by omega)
  · by_cases c2 : n / 65536 < 256
    · by_cases c3 : n / 65536 < 16
      · by_cases c4 : n / 65536 < 4
        · simp only [if_neg c1, if_pos c2, if_pos c3, if_pos c4]
          exact nz_leaf 15 rfl 16 rfl (by decide) (by omega) (by omega) (by omega)
        · simp only [if_neg c1, if_pos c2, if_pos c3, if_neg c4]
          exact nz_leaf 13 rfl 18 rfl (by decide) (by omega) (by omega) (by omega)
      · by_cases c4 : n / 65536 / 16 < 4
        · simp only [if_neg c1, if_pos c2, if_neg c3, if_pos c4]
          exact nz_leaf 11 rfl 20 rfl (by decide) (by omega) (by omega) (by omega)
        · simp only [if_neg c1, if_pos c2, if_neg c3, if_neg c4]
          exact nz_leaf 9 rfl 22 rfl (by decide) (by omega) (by omega) (by omega)
    · by_cases c3 : n / 65536 / 256 < 16
      · by_cases c4 : n / 65536 / 256 < 4
        · simp only [if_neg c1, if_neg c2, if_pos c3, if_pos c4]
          exact nz_leaf 7 rfl 24 rfl (by decide) (by omega) (by omega) (by omega)
        · simp only [if_neg c1, if_neg c2, if_pos c3, if_neg c4]
          exact nz_leaf 5 rfl 26 rfl (by decide) (by omega) (by omega) (by omega)
      · by_cases c4 : n / 65536 / 256 / 16 < 4
        · simp only [if_neg c1, if_neg c2, if_neg c3, if_pos c4]
          exact nz_leaf 3 rfl 28 rfl (by decide) (by omega) (by omega) (by omega)
        · simp only [if_neg c1, if_neg c2, if_neg c3, if_neg c4]
          exact nz_leaf 1 rfl 30 rfl (by decide) (by omega) (by omega) (by omega)
theorem nI_ti {n : Nat} (h : n < 2 ^ 32) : (nI n).toInt = if n < 2 ^ 31 then (n : Int) else (n : Int) - 2 ^ 32 := by
  have c := BitVec.toInt_eq_toNat_cond (nI n).toBitVec
  rw [pk_tn h] at c
  show (nI n).toBitVec.toInt = _
  rw [c]
  by_cases z : n < 2 ^ 31
  · rw [if_pos z, if_pos (by omega)]
  · rw [if_neg z, if_neg (by omega)]; omega
theorem nlz32_n {n : Nat} (h0 : 0 < n) (h : n < 2 ^ 32) : ∃ z, z < 32 ∧ J_nlz32 (nI n) = nI z ∧ 2 ^ 31 ≤ n * 2 ^ z ∧ n * 2 ^ z < 2 ^ 32 := by
  by_cases c : n < 2147483648
  · exact nlz32_p h0 c
  · have ht := nI_ti h
    rw [if_neg (by omega)] at ht
    have z0 : (0 : Int32).toInt = 0 := rfl
    refine ⟨0, by decide, ?_, by omega, by omega⟩
    unfold J_nlz32
    rw [if_neg (by rw [ilt, ht, z0]; omega), if_neg (fun z => by rw [z, z0] at ht; omega)]
    rfl
theorem nI_z {n : Nat} (h : n < 2 ^ 32) : nI n = 0 ↔ n = 0 := by
  constructor
  · intro e
    have := pk_tn h
    rw [e] at this
    exact this.symm
  · intro e; rw [e]; rfl
theorem nlz64_n {x : Nat} (h0 : 0 < x) (h : x < 2 ^ 64) : ∃ z, z < 64 ∧ J_nlz64 (lN x) = nI z ∧ 2 ^ 63 ≤ x * 2 ^ z ∧ x * 2 ^ z < 2 ^ 64 := by
  have e1 : jlushr (lN x) 32 = lN (x / 2 ^ 32) := wb_shr (k := 32) h (by decide)
  have hq : x / 2 ^ 32 < 2 ^ 32 := by omega
  unfold J_nlz64
  rw [e1, lN_i, lN_i]
  by_cases c : x / 2 ^ 32 = 0
  · rw [if_pos ((nI_z hq).mpr c)]
    obtain ⟨z, z1, z2, z3, z4⟩ := nlz32_n h0 (by omega)
    have hp : x * 2 ^ (32 + z) = x * 2 ^ z * 2 ^ 32 := by rw [Nat.mul_assoc, ← Nat.pow_add, Nat.add_comm]
    refine ⟨32 + z, by omega, ?_, ?_, ?_⟩
    · rw [z2]; exact nI_add 32 z
    · rw [hp]; omega
    · rw [hp]; omega
  · rw [if_neg (fun e => c ((nI_z hq).mp e))]
    obtain ⟨z, z1, z2, z3, z4⟩ := nlz32_n (by omega) hq
    refine ⟨z, by omega, z2, ?_, ?_⟩
    · have : x / 2 ^ 32 * 2 ^ 32 * 2 ^ z ≤ x * 2 ^ z := Nat.mul_le_mul_right _ (by omega)
      rw [Nat.mul_right_comm] at this
      omega
    · have hw : 2 ^ (32 - z) * 2 ^ z = 2 ^ 32 := by rw [← Nat.pow_add]; refine congrArg _ ?_; omega
      have h5 : x / 2 ^ 32 < 2 ^ (32 - z) := by
        refine Nat.lt_of_mul_lt_mul_right (a := 2 ^ z) ?_
        rw [hw]; exact z4
      have h6 : x < (x / 2 ^ 32 + 1) * 2 ^ 32 := by omega
      have h7 : x * 2 ^ z < (x / 2 ^ 32 + 1) * 2 ^ 32 * 2 ^ z := Nat.mul_lt_mul_of_pos_right h6 (Nat.two_pow_pos z)
      have h8 : (x / 2 ^ 32 + 1) * 2 ^ z ≤ 2 ^ (32 - z) * 2 ^ z := Nat.mul_le_mul_right _ (by omega)
      rw [hw] at h8
      rw [Nat.mul_right_comm] at h7
      omega
theorem lN_z {x : Nat} (h : x < 2 ^ 64) : lN x = 0 ↔ x = 0 := by
  constructor
  · intro e
    have := wb_tn h
    rw [e] at this
    exact this.symm
  · intro e; rw [e]; rfl
theorem lN_inj {x y : Nat} (h : x < 2 ^ 64) (h2 : y < 2 ^ 64) : lN x = lN y ↔ x = y := by
  constructor
  · intro e
    rw [← wb_tn h, e, wb_tn h2]
  · intro e; rw [e]
/-- a fraction that is not nought, its leading zeros -/
theorem frac {f : Int64} (h : ¬ f = 0) : ∃ x z, 0 < x ∧ x < 2 ^ 64 ∧ f = lN x ∧ z < 64 ∧ J_nlz64 f = nI z ∧ 2 ^ 63 ≤ x * 2 ^ z ∧ x * 2 ^ z < 2 ^ 64 ∧ R_norm f = lN (x * 2 ^ z) := by
  obtain ⟨x, hx, e⟩ := wb_of f
  have h0 : 0 < x := by
    rcases Nat.eq_zero_or_pos x with c | c
    · rw [c] at e; exact absurd e h
    · exact c
  obtain ⟨z, z1, z2, z3, z4⟩ := nlz64_n h0 hx
  rw [← e] at z2
  refine ⟨x, z, h0, hx, e, z1, z2, z3, z4, ?_⟩
  unfold R_norm
  rw [z2, e]
  exact wb_shl x z1
/-- the halving of the highest place: doubling while it is positive -/
theorem pos_n {x : Nat} (h : x < 2 ^ 64) : 0 < lN x ↔ 0 < x ∧ x < 2 ^ 63 := by
  have z0 : (0 : Int64).toInt = 0 := rfl
  rw [fa_lt64, lN_ti h, z0]
  by_cases c : x < 2 ^ 63
  · rw [if_pos c]; omega
  · rw [if_neg c]; omega
theorem neg_L {x : Nat} (h : x < 2 ^ 64) : lN x < 0 ↔ 2 ^ 63 ≤ x := by
  have z0 : (0 : Int64).toInt = 0 := rfl
  rw [fa_lt64, lN_ti h, z0]
  by_cases c : x < 2 ^ 63
  · rw [if_pos c]; omega
  · rw [if_neg c]; omega
theorem dbl_n (x : Nat) : 2 * lN x = lN (2 * x) := lN_mul 2 x
theorem apL_n : ∀ (z n x : Nat) (e : Int32), z ≤ n → 0 < x → 2 ^ 63 ≤ x * 2 ^ z → x * 2 ^ z < 2 ^ 64 → M_apL n (lN x) e = (lN (x * 2 ^ z), e - nI z)
  | 0, n, x, e, hz, h0, h1, h2 => by
    have e0 : e - nI 0 = e := Int32.sub_zero e
    rw [e0, Nat.pow_zero, Nat.mul_one]
    rw [Nat.pow_zero, Nat.mul_one] at h1 h2
    have hn : ¬ 0 < lN x := fun q => by have := (pos_n h2).mp q; omega
    match n with
    | 0 => rfl
    | n + 1 => rw [M_apL_S, if_neg hn]
  | z + 1, 0, x, e, hz, h0, h1, h2 => absurd hz (by omega)
  | z + 1, n + 1, x, e, hz, h0, h1, h2 => by
    have hp : x * 2 ^ (z + 1) = 2 * x * 2 ^ z := by rw [Nat.pow_succ, Nat.mul_comm (2 ^ z) 2, ← Nat.mul_assoc, Nat.mul_comm x 2]
    rw [hp] at h1 h2
    have hx : 2 * x < 2 ^ 64 := Nat.lt_of_le_of_lt (Nat.le_mul_of_pos_right _ (Nat.two_pow_pos z)) h2
    rw [M_apL_S, if_pos ((pos_n (by omega)).mpr (by omega)), dbl_n, apL_n z n (2 * x) (e - 1) (by omega) (by omega) h1 h2, hp]
    have e2 : e - 1 - nI z = e - nI (z + 1) := by
      rw [nI_succ, Int32.sub_eq_add_neg, Int32.sub_eq_add_neg, Int32.sub_eq_add_neg, Int32.neg_add, Int32.add_assoc, Int32.sub_eq_add_neg, Int32.add_comm (-1)]
    rw [e2]
theorem mkL_apL : ∀ (n : Nat) (v : Int64) (e : Int32), M_mkL n v e = M_apL n v e
  | 0, v, e => rfl
  | n + 1, v, e => by
    rw [M_mkL_S, M_apL_S]
    have h1 : e + (-1) = e - 1 := (Int32.sub_eq_add_neg e 1).symm
    rw [h1, mkL_apL n]
