/-! numbers: rows of kit/laws/COUNTS.to-paste, and measures of mine -/
theorem fb_rng (x : Int32) : -2147483648 ≤ x.toInt ∧ x.toInt < 2147483648 := by
  have h1 := Int32.le_toInt x
  have h2 := Int32.toInt_lt x
  omega
theorem fb_bmod {z : Int} (h1 : -2147483648 ≤ z) (h2 : z < 2147483648) : z.bmod (2 ^ 32) = z := by
  rw [Int.bmod_eq_of_le (by omega) (by omega)]
theorem fb_addI {x y : Int32} (h1 : -2147483648 ≤ x.toInt + y.toInt) (h2 : x.toInt + y.toInt < 2147483648) : (x + y).toInt = x.toInt + y.toInt := by
  rw [Int32.toInt_add, fb_bmod h1 h2]
theorem fb_subI {x y : Int32} (h1 : -2147483648 ≤ x.toInt - y.toInt) (h2 : x.toInt - y.toInt < 2147483648) : (x - y).toInt = x.toInt - y.toInt := by
  rw [Int32.toInt_sub, fb_bmod h1 h2]
theorem fb_mulI {x y : Int32} (h1 : -2147483648 ≤ x.toInt * y.toInt) (h2 : x.toInt * y.toInt < 2147483648) : (x * y).toInt = x.toInt * y.toInt := by
  rw [Int32.toInt_mul, fb_bmod h1 h2]
theorem fb_negI {x : Int32} (h : x.toInt ≠ -2147483648) : (-x).toInt = -x.toInt := by
  have := fb_rng x
  rw [Int32.toInt_neg, fb_bmod (by omega) (by omega)]
theorem fb_ofI {z : Int} (h1 : -2147483648 ≤ z) (h2 : z < 2147483648) : (Int32.ofInt z).toInt = z := by
  rw [Int32.toInt_ofInt, fb_bmod h1 h2]
theorem fb_asI (x : Int32) : Int32.ofInt x.toInt = x := Int32.ofInt_toInt x
theorem fb_rngL (x : Int64) : -9223372036854775808 ≤ x.toInt ∧ x.toInt < 9223372036854775808 := by
  have h1 := Int64.le_toInt x
  have h2 := Int64.toInt_lt x
  omega
theorem fb_bmodL {z : Int} (h1 : -9223372036854775808 ≤ z) (h2 : z < 9223372036854775808) : z.bmod (2 ^ 64) = z := by
  rw [Int.bmod_eq_of_le (by omega) (by omega)]
theorem fb_addL {x y : Int64} (h1 : -9223372036854775808 ≤ x.toInt + y.toInt) (h2 : x.toInt + y.toInt < 9223372036854775808) : (x + y).toInt = x.toInt + y.toInt := by
  rw [Int64.toInt_add, fb_bmodL h1 h2]
theorem fb_subL {x y : Int64} (h1 : -9223372036854775808 ≤ x.toInt - y.toInt) (h2 : x.toInt - y.toInt < 9223372036854775808) : (x - y).toInt = x.toInt - y.toInt := by
  rw [Int64.toInt_sub, fb_bmodL h1 h2]
theorem fb_mulL {x y : Int64} (h1 : -9223372036854775808 ≤ x.toInt * y.toInt) (h2 : x.toInt * y.toInt < 9223372036854775808) : (x * y).toInt = x.toInt * y.toInt := by
  rw [Int64.toInt_mul, fb_bmodL h1 h2]
theorem ilt {a b : Int32} : a < b ↔ a.toInt < b.toInt := Int32.lt_iff_toInt_lt
theorem ile {a b : Int32} : a ≤ b ↔ a.toInt ≤ b.toInt := Int32.le_iff_toInt_le
theorem mu_inc {x v : Int32} (h : ¬ x ≤ v) : (x.toInt - (v + 1).toInt).toNat < (x.toInt - v.toInt).toNat := by
  rw [ile] at h
  have h1 := fb_rng x
  have h2 := fb_rng v
  have h3 : (1 : Int32).toInt = 1 := rfl
  have e : (v + 1).toInt = v.toInt + 1 := by rw [fb_addI (by omega) (by omega), h3]
  omega
theorem mu_0 (x : Int32) : (x.toInt - (0 : Int32).toInt).toNat < x.toInt.toNat + 1 := by
  have h3 : (0 : Int32).toInt = 0 := rfl
  omega
theorem mu_go {a b n : Nat} (h : a < b) (hn : b < n + 1) : a < n := Nat.lt_of_lt_of_le h (Nat.le_of_lt_succ hn)
theorem mu_70 {v : Int32} (h : ¬ 70 ≤ v) : (70 - (v + 1).toInt).toNat < (70 - v.toInt).toNat := by
  rw [ile] at h
  have h0 : (70 : Int32).toInt = 70 := rfl
  have h2 := fb_rng v
  have h3 : (1 : Int32).toInt = 1 := rfl
  have e : (v + 1).toInt = v.toInt + 1 := by rw [fb_addI (by omega) (by omega), h3]
  omega
theorem mu_neg {v : Int32} (h : ¬ 0 ≤ v) : (-(v + 1).toInt).toNat < (-v.toInt).toNat := by
  rw [ile] at h
  have h0 : (0 : Int32).toInt = 0 := rfl
  have h2 := fb_rng v
  have h3 : (1 : Int32).toInt = 1 := rfl
  have e : (v + 1).toInt = v.toInt + 1 := by rw [fb_addI (by omega) (by omega), h3]
  omega
theorem mu_01 (x : Int32) : (x.toInt + 1 - (0 : Int32).toInt).toNat < (x.toInt + 1).toNat + 1 := by
  have h3 : (0 : Int32).toInt = 0 := rfl
  omega
theorem mu_incle {x v : Int32} (h : ¬ x < v) (hx : x.toInt < 2147483647) : (x.toInt + 1 - (v + 1).toInt).toNat < (x.toInt + 1 - v.toInt).toNat := by
  rw [ilt] at h
  have h2 := fb_rng v
  have h3 : (1 : Int32).toInt = 1 := rfl
  have e : (v + 1).toInt = v.toInt + 1 := by rw [fb_addI (by omega) (by omega), h3]
  omega
/-- a long that is doubled until its highest bit is 1 -/
def mu_d (x : Int64) : Nat := if 0 < x then 63 - Nat.log2 x.toBitVec.toNat else 0
theorem mu_d64 (x : Int64) : mu_d x < 64 := by
  unfold mu_d
  split <;> omega
theorem l2_pos {x : Int64} (h : 0 < x) : 0 < x.toBitVec.toNat ∧ x.toBitVec.toNat < 2 ^ 63 ∧ x.toInt = x.toBitVec.toNat := by
  have h0 : (0 : Int64).toInt = 0 := rfl
  rw [Int64.lt_iff_toInt_lt, h0] at h
  have e : x.toInt = x.toBitVec.toInt := rfl
  rw [e, BitVec.toInt_eq_toNat_cond] at h ⊢
  have := x.toBitVec.isLt
  split at h <;> rename_i q <;> (refine ⟨by omega, by omega, ?_⟩; rw [if_pos (by omega)])
theorem l2_dbl (x : Int64) : (2 * x).toBitVec.toNat = 2 * x.toBitVec.toNat % 2 ^ 64 := by
  have e : (2 * x).toBitVec = (2 : Int64).toBitVec * x.toBitVec := Int64.toBitVec_mul ..
  rw [e, BitVec.toNat_mul]
  rfl
theorem mu_d2 {x : Int64} (h : 0 < x) : mu_d (2 * x) < mu_d x := by
  obtain ⟨h1, h2, -⟩ := l2_pos h
  have hx : mu_d x = 63 - Nat.log2 x.toBitVec.toNat := if_pos h
  have hl : Nat.log2 x.toBitVec.toNat < 63 := (Nat.log2_lt (by omega)).mpr h2
  unfold mu_d at hx ⊢
  rw [hx]
  split
  · rename_i h3
    rw [l2_dbl, Nat.mod_eq_of_lt (by omega), Nat.log2_two_mul (by omega)]
    omega
  · omega
