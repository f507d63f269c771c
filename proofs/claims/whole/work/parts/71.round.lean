/-! the reference's rounding -/
theorem half_L {y : Nat} (h : y < 2 ^ 64) : (jlshr (lN y) 1) &&& 9223372036854775807 = lN (y / 2) := by
  apply wb_inj
  rw [Int64.toBitVec_and]
  have e2 : (jlshr (lN y) 1).toBitVec = (BitVec.ofNat 64 y).sshiftRight 1 := rfl
  have e3 : (9223372036854775807 : Int64).toBitVec = BitVec.ofNat 64 (2 ^ 63 - 1) := by decide
  rw [e2, e3, wb_tb]
  apply BitVec.eq_of_getLsbD_eq
  intro i hi
  rw [BitVec.getLsbD_and, BitVec.getLsbD_sshiftRight, BitVec.getLsbD_ofNat, BitVec.getLsbD_ofNat, BitVec.getLsbD_ofNat, Nat.testBit_two_pow_sub_one, Nat.testBit_div_two]
  by_cases c : i < 63
  · have h1 : 1 + i < 64 := by omega
    have h2 : ¬ 64 ≤ i := by omega
    have h3 : i + 1 < 64 := by omega
    simp [c, h1, h2, h3, hi, BitVec.getLsbD_ofNat, Nat.add_comm]
  · have h3 : i = 63 := by omega
    subst h3
    have : y.testBit (63 + 1) = false := Nat.testBit_lt_two_pow (by omega)
    simp [this]
theorem odd_L (v : Int64) : v - v / 2 * 2 = 0 ↔ v.toInt % 2 = 0 := by
  have e2 : (2 : Int64).toInt = 2 := rfl
  have hd : (v / 2).toInt = v.toInt.tdiv 2 := Int64.toInt_div_of_ne_right v 2 (by decide)
  have hr := fb_rngL v
  have hm := Int.tmod_def v.toInt 2
  have hb : v.toInt.tmod 2 = 0 ↔ v.toInt % 2 = 0 := by
    rw [← Int.dvd_iff_tmod_eq_zero]
    omega
  have hs : (0 ≤ v.toInt ∧ 0 ≤ v.toInt.tmod 2 ∧ v.toInt.tmod 2 ≤ 1) ∨ (v.toInt ≤ 0 ∧ -1 ≤ v.toInt.tmod 2 ∧ v.toInt.tmod 2 ≤ 0) := by
    rcases Int.le_total 0 v.toInt with c | c
    · left
      rw [Int.tmod_eq_emod_of_nonneg c]
      omega
    · have : v.toInt.tmod 2 = -((-v.toInt) % 2) := by
        rw [← Int.tmod_eq_emod_of_nonneg (by omega : 0 ≤ -v.toInt), Int.neg_tmod, Int.neg_neg]
      omega
  have hm2 : (v / 2 * 2).toInt = v.toInt.tdiv 2 * 2 := by
    have q1 : -9223372036854775808 ≤ (v / 2).toInt * (2 : Int64).toInt := by rw [hd, e2]; omega
    have q2 : (v / 2).toInt * (2 : Int64).toInt < 9223372036854775808 := by rw [hd, e2]; omega
    rw [fb_mulL q1 q2, hd, e2]
  have hs2 : (v - v / 2 * 2).toInt = v.toInt.tmod 2 := by
    rw [fb_subL (x := v) (y := v / 2 * 2) (by rw [hm2]; omega) (by rw [hm2]; omega), hm2]
    omega
  have z0 : (0 : Int64).toInt = 0 := rfl
  rw [fa_eq64, hs2, z0, hb]
theorem odd_n {y : Nat} (h : y < 2 ^ 64) : lN y - lN y / 2 * 2 = 0 ↔ y % 2 = 0 := by
  rw [odd_L, lN_ti h]
  by_cases c : y < 2 ^ 63
  · rw [if_pos c]; omega
  · rw [if_neg c]; omega
theorem odd_1 {y : Nat} (h : y < 2 ^ 63) : lN y - lN y / 2 * 2 = 1 ↔ y % 2 = 1 := by
  have e : lN y - lN y / lN 2 * lN 2 = lN (y % 2) := pk_lRem h (by decide) (by decide)
  have e2 : lN y - lN y / 2 * 2 = lN (y % 2) := e
  rw [e2]
  exact lN_inj (x := y % 2) (y := 1) (by omega) (by decide)
theorem Q_half_S (x k : Nat) : Q_half x (k + 1) = decide (x / 2 ^ k % 2 ≠ 0) := by
  unfold Q_half
  refine decide_eq_decide.mpr ?_
  have hp := Nat.two_pow_pos k
  have e : x % 2 ^ (k + 1) = x % 2 ^ k + 2 ^ k * (x / 2 ^ k % 2) := by rw [Nat.pow_succ]; exact Nat.mod_mul
  have hl : x % 2 ^ k < 2 ^ k := Nat.mod_lt _ hp
  have h2 : x / 2 ^ k % 2 = 0 ∨ x / 2 ^ k % 2 = 1 := by omega
  rw [e, Nat.pow_succ]
  rcases h2 with c | c
  · rw [c]; omega
  · rw [c]; omega
theorem Q_rest_S (x k : Nat) : Q_rest x (k + 1) = (Q_half x k || Q_rest x k) := by
  rw [← Q_cut_hr]
  unfold Q_rest Q_cut
  refine decide_eq_decide.mpr ?_
  have hp := Nat.two_pow_pos k
  have e : x % 2 ^ (k + 1) = x % 2 ^ k + 2 ^ k * (x / 2 ^ k % 2) := by rw [Nat.pow_succ]; exact Nat.mod_mul
  have hl : x % 2 ^ k < 2 ^ k := Nat.mod_lt _ hp
  have h2 : x / 2 ^ k % 2 = 0 ∨ x / 2 ^ k % 2 = 1 := by omega
  rw [e, Nat.pow_succ]
  generalize x / 2 ^ k % 2 = o at h2
  generalize x % 2 ^ k = r at hl
  generalize 2 ^ k = P at hp hl
  rcases h2 with c | c
  · rw [c]
    have : 2 * (r + P * 0) % (P * 2) = 2 * r := by rw [Nat.mod_eq_of_lt (by omega)]; omega
    rw [this]; omega
  · rw [c]
    have : 2 * (r + P * 1) % (P * 2) = 2 * r := by
      have h3 : 2 * (r + P * 1) = 2 * r + P * 2 := by omega
      rw [h3, Nat.add_mod_right, Nat.mod_eq_of_lt (by omega)]
    rw [this]; omega
theorem rdL_n {s : Nat} (hs : s < 2 ^ 31) (x : Nat) (hx : x < 2 ^ 64) : ∀ (n k : Nat), k ≤ min s 70 → min s 70 - k < n → M_rdL (nI s) n (lN (x / 2 ^ k)) (Q_half x k) (Q_rest x k) (nI k) = (lN (x / 2 ^ min s 70), Q_half x (min s 70), Q_rest x (min s 70), nI (min s 70))
  | 0, k, h1, h2 => absurd h2 (by omega)
  | n + 1, k, h1, h2 => by
    have e1 : nI s ≤ nI k ↔ s ≤ k := nI_leI hs (by omega)
    have e2 : (70 : Int32) ≤ nI k ↔ 70 ≤ k := nI_leI (a := 70) (by decide) (by omega)
    rw [M_rdL_S]
    by_cases c1 : s ≤ k
    · have : min s 70 = k := by omega
      rw [if_pos (e1.mpr c1), this]
    · rw [if_neg (fun q => c1 (e1.mp q))]
      by_cases c2 : 70 ≤ k
      · have : min s 70 = k := by omega
        rw [if_pos (e2.mpr c2), this]
      · rw [if_neg (fun q => c2 (e2.mp q))]
        have hy : x / 2 ^ k < 2 ^ 64 := Nat.lt_of_le_of_lt (Nat.div_le_self _ _) hx
        have hd : x / 2 ^ k / 2 = x / 2 ^ (k + 1) := by rw [Nat.div_div_eq_div_mul, Nat.pow_succ]
        have hv2 : (if lN (x / 2 ^ k) - lN (x / 2 ^ k) / 2 * 2 = 0 then false else true) = Q_half x (k + 1) := by
          rw [Q_half_S]
          by_cases d : x / 2 ^ k % 2 = 0
          · rw [if_pos ((odd_n hy).mpr d), decide_eq_false (fun q => q d)]
          · rw [if_neg (fun q => d ((odd_n hy).mp q)), decide_eq_true d]
        have hv3 : (if bI (Q_rest x k) = 0 then (if bI (Q_half x k) = 0 then false else true) else true) = Q_rest x (k + 1) := by
          rw [Q_rest_S]
          cases Q_rest x k <;> cases Q_half x k <;> rfl
        rw [half_L hy, hd, hv2, hv3, nI_1]
        exact rdL_n hs x hx n (k + 1) (by omega) (by omega)
theorem M_rounded_n {ct : Int32} {w : Nat} (hw : M_way ct = nI w) (hw4 : w < 4) {x s : Nat} (ng : Bool) (h0 : 0 < x) (h : x < 2 ^ 64) (h1 : 1 ≤ s) (h2 : s < 2 ^ 31) : M_rounded ct (lN x) (nI s) ng = (lN (Q_rd w ng x s), Q_cut x s) := by
  have hl := rdL_n h2 x h 71 0 (by omega) (by omega)
  have i1 : lN (x / 2 ^ 0) = lN x := by rw [Nat.pow_zero, Nat.div_one]
  have i2 : Q_half x 0 = false := by
    unfold Q_half
    rw [Nat.pow_zero, Nat.mod_one]; rfl
  have i3 : Q_rest x 0 = false := by
    unfold Q_rest
    rw [Nat.pow_zero, Nat.mod_one]; rfl
  have i4 : nI 0 = 0 := rfl
  rw [i1, i2, i3, i4] at hl
  unfold M_rounded
  rw [tup4_e hl, hw]
  have e1 : (70 : Int32) < nI s ↔ 70 < s := nI_ltI (a := 70) (by decide) h2
  have e2 : nI s ≤ (70 : Int32) ↔ s ≤ 70 := nI_leI (b := 70) h2 (by decide)
  have hf : (if bI (Q_half x (min s 70)) = 0 then false else (if (70 : Int32) < nI s then false else true)) = Q_half x s := by
    by_cases c : s ≤ 70
    · have : min s 70 = s := by omega
      have n1 : ¬ (70 : Int32) < nI s := fun q => by have := e1.mp q; omega
      rw [this]
      simp only [if_neg n1]
      cases Q_half x s <;> rfl
    · simp only [if_pos (e1.mpr (by omega : 70 < s))]
      obtain ⟨a1, a2, a3⟩ := Q_big h0 h (by omega : 64 < s)
      have : Q_half x s = false := by
        unfold Q_half
        rw [a1]; exact decide_eq_false (by omega)
      rw [this]
      cases Q_half x (min s 70) <;> rfl
  have ht : (if bI (Q_rest x (min s 70)) = 0 then (if nI s ≤ (70 : Int32) then false else (if bI (Q_half x (min s 70)) = 0 then false else true)) else true) = Q_rest x s := by
    by_cases c : s ≤ 70
    · have : min s 70 = s := by omega
      rw [this]
      simp only [if_pos (e2.mpr c)]
      cases Q_rest x s <;> rfl
    · obtain ⟨a1, a2, a3⟩ := Q_big h0 h (by omega : 64 < s)
      obtain ⟨b1, b2, b3⟩ := Q_big h0 h (by decide : 64 < 70)
      have t1 : Q_rest x s = true := by
        unfold Q_rest
        rw [a1, Nat.mod_eq_of_lt a3]; exact decide_eq_true (by omega)
      have t2 : Q_rest x 70 = true := by
        unfold Q_rest
        rw [b1, Nat.mod_eq_of_lt b3]; exact decide_eq_true (by omega)
      have : min s 70 = 70 := by omega
      rw [this, t1, t2]; rfl
  have hv : x / 2 ^ min s 70 = x / 2 ^ s := by
    by_cases c : s ≤ 70
    · have : min s 70 = s := by omega
      rw [this]
    · obtain ⟨a1, a2, a3⟩ := Q_big h0 h (by omega : 64 < s)
      obtain ⟨b1, b2, b3⟩ := Q_big h0 h (by decide : 64 < 70)
      have : min s 70 = 70 := by omega
      rw [this, a2, b2]
  have hy : x / 2 ^ s < 2 ^ 63 := by
    have : x / 2 ^ s ≤ x / 2 ^ 1 := Nat.div_le_div_left (Nat.pow_le_pow_right (by decide) h1) (by decide)
    omega
  have ho : (if lN (x / 2 ^ s) - lN (x / 2 ^ s) / 2 * 2 = 1 then true else false) = decide (x / 2 ^ s % 2 = 1) := by
    by_cases d : x / 2 ^ s % 2 = 1
    · rw [if_pos ((odd_1 hy).mpr d), decide_eq_true d]
    · rw [if_neg (fun q => d ((odd_1 hy).mp q)), decide_eq_false d]
  rw [hf, ht, hv, ho]
  unfold Q_rd Q_up
  rw [Q_near, Q_cut_hr]
  generalize Q_half x s = hb
  generalize Q_rest x s = rb
  generalize decide (x / 2 ^ s % 2 = 1) = ob
  have h1L : ∀ y : Nat, lN y + 1 = lN (y + 1) := lN_1
  generalize x / 2 ^ s = y at h1L
  rw [h1L]
  have hy1 : ∀ y : Nat, lN (y + 0) = lN y := fun y => rfl
  match w, hw4 with
  | 0, _ => cases hb <;> cases rb <;> cases ob <;> cases ng <;> rfl
  | 1, _ => cases hb <;> cases rb <;> cases ob <;> cases ng <;> rfl
  | 2, _ => cases hb <;> cases rb <;> cases ob <;> cases ng <;> rfl
  | 3, _ => cases hb <;> cases rb <;> cases ob <;> cases ng <;> rfl
  | n + 4, q => exact absurd q (by omega)
