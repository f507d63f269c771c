/-! the step to a whole number -/
theorem unit_rng {t : Int32} (h1 : 0 ≤ t.toInt) (h2 : t.toInt ≤ 65535) : -16445 ≤ (R_unit t).toInt ∧ (R_unit t).toInt ≤ 16321 := by
  obtain ⟨a, ha, rfl⟩ := top_of h1 h2
  unfold R_unit
  rw [pow_n]
  have hp : a % 32768 < 32768 := Nat.mod_lt _ (by decide)
  generalize a % 32768 = p at hp
  have e1 : nI p < 1 ↔ p < 1 := nI_ltI (b := 1) (by omega) (by decide)
  have hm : ∃ q : Nat, 1 ≤ q ∧ q < 32768 ∧ (if nI p < 1 then (1 : Int32) else nI p) = nI q := by
    by_cases c : p < 1
    · exact ⟨1, by omega, by omega, by rw [if_pos (e1.mpr c)]; rfl⟩
    · exact ⟨p, by omega, hp, by rw [if_neg (fun q => c (e1.mp q))]⟩
  obtain ⟨q, q1, q2, q3⟩ := hm
  rw [q3]
  have : (nI q - 16446).toInt = (q : Int) - 16446 := subK (nI_toInt (by omega)) rfl (by omega) (by omega)
  rw [this]
  omega
theorem nought_f {t : Int32} {f : Int64} (h : ¬ R_kind t f = 4) : R_nought t f = decide (f = 0) := by
  unfold R_nought
  by_cases c : f = 0
  · rw [if_pos c, decide_eq_true c]
    by_cases p : R_pow t = 32767
    · refine absurd ?_ h
      unfold R_kind
      have p0 : ¬ R_pow t = 0 := by rw [p]; decide
      rw [if_neg p0, if_pos p, if_pos ((dbl_0 f).mpr (Or.inl c))]
    · rw [if_neg p]
  · rw [if_neg c, decide_eq_false c]
theorem nought_4 {t : Int32} {f : Int64} (h : R_kind t f = 4) : R_nought t f = false := by
  unfold R_nought
  by_cases p : R_pow t = 32767
  · rw [if_pos p]
    by_cases c : f = 0
    · rw [if_pos c]
    · rw [if_neg c]
  · unfold R_kind at h
    by_cases p0 : R_pow t = 0
    · rw [if_pos p0] at h
      by_cases c : f = 0
      · rw [if_pos c] at h; exact absurd h (by decide)
      · rw [if_neg c] at h; exact absurd h (by decide)
    · rw [if_neg p0, if_neg p] at h
      by_cases c : f < 0
      · rw [if_pos c] at h; exact absurd h (by decide)
      · rw [if_neg c] at h; exact absurd h (by decide)
theorem M_rounded_0 (ct : Int32) {s : Nat} (h2 : s < 2 ^ 31) (ng : Bool) : M_rounded ct 0 (nI s) ng = (0, false) := by
  have qh : ∀ k, Q_half 0 k = false := fun k => by
    unfold Q_half
    rw [Nat.zero_mod]
    exact decide_eq_false (by have := Nat.two_pow_pos k; omega)
  have qr : ∀ k, Q_rest 0 k = false := fun k => by
    unfold Q_rest
    rw [Nat.zero_mod, Nat.mul_zero, Nat.zero_mod]
    exact decide_eq_false (fun q => q rfl)
  have hl := rdL_n h2 0 (by decide) 71 0 (by omega) (by omega)
  rw [qh, qr, qh, qr, Nat.zero_div, Nat.zero_div] at hl
  have hl2 : M_rdL (nI s) 71 0 false false 0 = (0, false, false, nI (min s 70)) := hl
  unfold M_rounded
  rw [tup4_e hl2]
  simp only [if_pos bIf, ite_self]
theorem z_uniq {x a b : Nat} (a1 : 2 ^ 63 ≤ x * 2 ^ a) (a2 : x * 2 ^ a < 2 ^ 64) (b1 : 2 ^ 63 ≤ x * 2 ^ b) (b2 : x * 2 ^ b < 2 ^ 64) : a = b := by
  have key : ∀ {a b : Nat}, 2 ^ 63 ≤ x * 2 ^ a → x * 2 ^ b < 2 ^ 64 → ¬ a < b := by
    intro a b h1 h2 hl
    have e : x * 2 ^ b = x * 2 ^ a * 2 ^ (b - a) := by rw [Nat.mul_assoc, ← Nat.pow_add]; refine congrArg _ (congrArg _ ?_); omega
    have e2 : 2 ^ 1 ≤ 2 ^ (b - a) := Nat.pow_le_pow_right (by decide) (by omega)
    have e3 : 2 ^ 63 * 2 ^ 1 ≤ x * 2 ^ a * 2 ^ (b - a) := Nat.mul_le_mul h1 e2
    rw [← e] at e3
    have e4 : (2 : Nat) ^ 63 * 2 ^ 1 = 2 ^ 64 := by decide
    rw [e4] at e3
    exact absurd h2 (Nat.not_lt.mpr e3)
  have := key a1 b2
  have := key b1 a2
  omega
theorem R_make_shift {cw td : Int32} {ng : Bool} {x z m : Nat} {un un' : Int32} (h0 : 0 < x) (h1 : 2 ^ 63 ≤ x * 2 ^ z) (h2 : x * 2 ^ z < 2 ^ 64) (hx : x < 2 ^ 64) (hm : m ≤ z) (hz : z < 64) (hu : un' + 63 - nI (z - m) = un + 63 - nI z) : R_make cw td ng (lN (x * 2 ^ m)) un' = R_make cw td ng (lN x) un := by
  have ex2 : x * 2 ^ z = x * 2 ^ m * 2 ^ (z - m) := by rw [Nat.mul_assoc, ← Nat.pow_add]; refine congrArg _ (congrArg _ ?_); omega
  have hy0 : 0 < x * 2 ^ m := Nat.mul_pos h0 (Nat.two_pow_pos m)
  have hy : x * 2 ^ m < 2 ^ 64 := Nat.lt_of_le_of_lt (by rw [ex2]; exact Nat.le_mul_of_pos_right _ (Nat.two_pow_pos _)) h2
  obtain ⟨z1, a1, a2, a3, a4⟩ := nlz64_n h0 hx
  obtain ⟨z2, b1, b2, b3, b4⟩ := nlz64_n hy0 hy
  have ez1 := z_uniq a3 a4 h1 h2
  have ez2 := z_uniq b3 b4 (b := z - m) (by rw [← ex2]; exact h1) (by rw [← ex2]; exact h2)
  subst ez1 ez2
  have e1 : jlshl (lN x) (nI z1) = lN (x * 2 ^ z1) := wb_shl x hz
  have e2 : jlshl (lN (x * 2 ^ m)) (nI (z1 - m)) = lN (x * 2 ^ m * 2 ^ (z1 - m)) := wb_shl _ (by omega)
  unfold R_make
  have n2 : ¬ lN (x * 2 ^ m) = 0 := fun q => by have := (lN_z hy).mp q; omega
  have n1 : ¬ lN x = 0 := fun q => by have := (lN_z hx).mp q; omega
  rw [if_neg n2, if_neg n1, a2, b2, e1, e2, hu, ← ex2]
theorem exp_n {t : Int32} {f : Int64} {z : Nat} (h : J_nlz64 f = nI z) : R_exp t f = R_unit t + 63 - nI z := by
  unfold R_exp
  rw [h]
theorem whole_4 {cw td t : Int32} {f : Int64} (h : R_kind t f = 4) : R_wholeOf cw td t f = (t, f, td) := by
  unfold R_wholeOf
  rw [isOf_t h, if_neg bIt]
theorem whole_neg {cw : Int32} (hc1 : 0 ≤ cw.toInt) (hc2 : cw.toInt ≤ 65535) {t : Int32} (h1 : 0 ≤ t.toInt) (h2 : t.toInt ≤ 65535) {f : Int64} (hk : ¬ R_kind t f = 4) (d : Nat) (hu : R_unit t < 0) :
    ∃ (y : Int64) (c : Bool), M_rounded cw f (-(R_unit t)) (R_neg t) = (y, c) ∧ R_wholeOf cw (nI d) t f = R_make cw (nI (if c = true then d ||| 2 ^ 5 else d)) (R_neg t) y 0 := by
  obtain ⟨w, hw4, hwR, hwM⟩ := way_w hc1 hc2
  obtain ⟨r1, r2⟩ := unit_rng h1 h2
  have z0 : (0 : Int32).toInt = 0 := rfl
  rw [ilt, z0] at hu
  obtain ⟨s, hs, hs1⟩ : ∃ s : Nat, (R_unit t).toInt = -(s : Int) ∧ 1 ≤ s := ⟨(-(R_unit t).toInt).toNat, by omega, by omega⟩
  have es : -(R_unit t) = nI s := i32_eq (by rw [fb_negI (by omega), hs, nI_toInt (by omega)]; omega)
  rw [es]
  unfold R_wholeOf
  rw [isOf_f hk, if_pos bIf, nought_f hk]
  simp only [tup3_id]
  by_cases hf : f = 0
  · rw [decide_eq_true hf, if_neg bIt, hf, M_rounded_0 cw (by omega)]
    refine ⟨0, false, rfl, ?_⟩
    unfold R_make
    rw [if_pos rfl, if_pos rfl]
    rfl
  · rw [decide_eq_false hf, if_pos bIf]
    obtain ⟨x, z, x0, hx, e, hz, hj, g1, g2, hn⟩ := frac hf
    have hp : 0 < x * 2 ^ z := Nat.mul_pos x0 (Nat.two_pow_pos z)
    have esh : 63 - R_exp t f = nI (s + z) := by
      rw [exp_n hj]
      clear g1 g2 hp hx
      refine i32_eq ?_
      have q1 : (R_unit t + 63 - nI z).toInt = -(s : Int) + 63 - z := by rw [ex_toInt (by omega) (by omega) hz, hs]
      rw [subK (a := 63) rfl q1 (by omega) (by omega), nI_toInt (by omega)]
      omega
    have hpos : (0 : Int32) < nI (s + z) := by rw [ilt, z0, nI_toInt (by omega)]; omega
    have hr := R_rounded_n hwR hw4 (x := x * 2 ^ z) (s := s + z) (R_neg t) hp g2 (by omega) (by omega)
    have hcut := isCut_n (x := x * 2 ^ z) (s := s + z) hp g2 (by omega) (by omega)
    rw [Q_rd_z] at hr
    rw [Q_cut_z] at hcut
    have hmr := M_rounded_n hwM hw4 (x := x) (s := s) (R_neg t) x0 hx hs1 (by omega)
    rw [esh, if_pos hpos, hn, hcut, hr, e, hmr]
    refine ⟨_, _, rfl, ?_⟩
    cases Q_cut x s
    · rw [if_pos bIf]
      rfl
    · rw [if_neg bIt]
      have eo : nI d ||| (32 : Int32) = nI (d ||| 2 ^ 5) := fa_or d 32
      rw [eo]
      rfl
theorem whole_pos {cw : Int32} (hc1 : 0 ≤ cw.toInt) (hc2 : cw.toInt ≤ 65535) {t : Int32} (h1 : 0 ≤ t.toInt) (h2 : t.toInt ≤ 65535) {f : Int64} (hk : ¬ R_kind t f = 4) (td : Int32) (hu : ¬ R_unit t < 0) : R_wholeOf cw td t f = R_make cw td (R_neg t) f (R_unit t) := by
  obtain ⟨w, hw4, hwR, hwM⟩ := way_w hc1 hc2
  obtain ⟨r1, r2⟩ := unit_rng h1 h2
  have z0 : (0 : Int32).toInt = 0 := rfl
  rw [ilt, z0] at hu
  obtain ⟨m, hm⟩ : ∃ m : Nat, (R_unit t).toInt = (m : Int) := ⟨(R_unit t).toInt.toNat, by omega⟩
  have em : R_unit t = nI m := i32_eq (by rw [hm, nI_toInt (by omega)])
  unfold R_wholeOf
  rw [isOf_f hk, if_pos bIf, nought_f hk]
  simp only [tup3_id]
  by_cases hf : f = 0
  · rw [decide_eq_true hf, if_neg bIt]
  · rw [decide_eq_false hf, if_pos bIf]
    obtain ⟨x, z, x0, hx, e, hz, hj, g1, g2, hn⟩ := frac hf
    have hp : 0 < x * 2 ^ z := Nat.mul_pos x0 (Nat.two_pow_pos z)
    have q1 : (R_unit t + 63 - nI z).toInt = (m : Int) + 63 - z := by rw [ex_toInt (by omega) (by omega) hz, hm]
    have q2 : (63 - R_exp t f).toInt = (z : Int) - m := by
      rw [exp_n hj]
      clear g1 g2 hp hx
      rw [subK (a := 63) rfl q1 (by omega) (by omega)]
      omega
    by_cases c : 0 < 63 - R_exp t f
    · rw [if_pos c]
      rw [ilt, z0, q2] at c
      have hmz : m < z := by clear g1 g2 hp hx; omega
      have esh : 63 - R_exp t f = nI (z - m) := by
        clear g1 g2 hp hx
        refine i32_eq ?_
        rw [q2, nI_toInt (by omega)]
        omega
      have ex2 : x * 2 ^ z = x * 2 ^ m * 2 ^ (z - m) := by rw [Nat.mul_assoc, ← Nat.pow_add]; refine congrArg _ (congrArg _ ?_); omega
      have hr := R_rounded_n hwR hw4 (x := x * 2 ^ z) (s := z - m) (R_neg t) hp g2 (by omega) (by omega)
      have hcut := isCut_n (x := x * 2 ^ z) (s := z - m) hp g2 (by omega) (by omega)
      have p1 := Q_rd_z w (R_neg t) (x * 2 ^ m) 0 (z - m)
      have p2 := Q_cut_z (x * 2 ^ m) 0 (z - m)
      rw [Nat.zero_add, ← ex2, (Q_0 w (R_neg t) _).2] at p1
      rw [Nat.zero_add, ← ex2, (Q_0 w (R_neg t) _).1] at p2
      rw [p1] at hr
      rw [p2] at hcut
      rw [esh, hn, hcut, if_pos bIf, hr, e]
      refine R_make_shift x0 g1 g2 hx (by omega) hz ?_
      clear g1 g2 hp hx hr hcut p1 p2 ex2
      refine i32_eq ?_
      rw [q1, ex_toInt (by decide) (by decide) (by omega), z0]
      omega
    · rw [if_neg c]
