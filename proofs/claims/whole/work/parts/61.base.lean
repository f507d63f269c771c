/-! tops and fractions as numbers -/
theorem top_of {t : Int32} (h1 : 0 ≤ t.toInt) (h2 : t.toInt ≤ 65535) : ∃ a : Nat, a < 65536 ∧ t = nI a := by
  refine ⟨t.toInt.toNat, by omega, ?_⟩
  apply Int32.toInt_inj.mp
  rw [nI_toInt (by omega)]
  omega
theorem pow_n (a : Nat) : R_pow (nI a) = nI (a % 32768) := fa_mask a 15
theorem rem_n {a : Nat} (h : a < 65536) : nI a - nI a / 32768 * 32768 = nI (a % 32768) := fa_rem (k := 15) (by omega) (by decide)
theorem bit_n (n : Nat) {j : Nat} (hj : j < 31) : nI n &&& nI (2 ^ j) = 0 ↔ n / 2 ^ j % 2 = 0 := by
  rw [fa_bit hj, Nat.testBit_eq_decide_div_mod_eq, decide_eq_false_iff_not]
  omega
theorem neg_n {a : Nat} (h : a < 65536) : R_neg (nI a) = decide (32768 ≤ a) := by
  unfold R_neg
  have hb := bit_n a (j := 15) (by decide)
  have e : (nI (2 ^ 15) : Int32) = 32768 := rfl
  rw [e] at hb
  have e2 : (2 : Nat) ^ 15 = 32768 := rfl
  rw [e2] at hb
  by_cases c : 32768 ≤ a
  · rw [if_neg (fun z => by have := hb.mp z; omega), decide_eq_true c]
  · rw [if_pos (hb.mpr (by omega)), decide_eq_false c]
theorem minus_n {a : Nat} (h : a < 65536) : M_minus (nI a) = decide (32768 ≤ a) := by
  unfold M_minus
  have e : nI a ≤ 32767 ↔ a ≤ 32767 := nI_leI (b := 32767) (by omega) (by decide)
  by_cases c : 32768 ≤ a
  · rw [if_neg (fun z => by have := e.mp z; omega), decide_eq_true c]
  · rw [if_pos (e.mpr (by omega)), decide_eq_false c]
theorem minus_neg {t : Int32} (h1 : 0 ≤ t.toInt) (h2 : t.toInt ≤ 65535) : M_minus t = R_neg t := by
  obtain ⟨a, ha, rfl⟩ := top_of h1 h2
  rw [minus_n ha, neg_n ha]
theorem masked_n {a j : Nat} (ha : a < 65536) (hj : j < 16) : M_masked (nI a) (nI (2 ^ j)) = R_masked (nI a) (nI (2 ^ j)) := by
  unfold M_masked R_masked
  have hp : 2 ^ j < 2 ^ 31 := Nat.pow_lt_pow_right (by decide) (by omega)
  have hq : a / 2 ^ j ≤ a := Nat.div_le_self _ _
  rw [pk_div (by omega) (Nat.two_pow_pos j) hp]
  have e2 : nI (a / 2 ^ j) - nI (a / 2 ^ j) / 2 * 2 = nI (a / 2 ^ j % 2) := pk_rem (d := 2) (by omega) (by decide) (by decide)
  rw [e2]
  have hb := bit_n a (j := j) (by omega)
  have e1 : nI (a / 2 ^ j % 2) = 1 ↔ a / 2 ^ j % 2 = 1 := nI_eq (b := 1) (by omega) (by decide)
  by_cases c : a / 2 ^ j % 2 = 0
  · rw [if_pos (hb.mpr c), if_neg (fun z => by have := e1.mp z; omega)]
  · rw [if_neg (fun z => c (hb.mp z)), if_pos (e1.mpr (by omega))]
theorem masked_eq {c : Int32} (h1 : 0 ≤ c.toInt) (h2 : c.toInt ≤ 65535) {w : Int32} (j : Nat) (hw : w = nI (2 ^ j)) (hj : j < 16) : M_masked c w = R_masked c w := by
  obtain ⟨a, ha, rfl⟩ := top_of h1 h2
  rw [hw, masked_n ha hj]
theorem way_eq {c : Int32} (h1 : 0 ≤ c.toInt) (h2 : c.toInt ≤ 65535) : M_way c = R_rounding c := by
  obtain ⟨a, ha, rfl⟩ := top_of h1 h2
  unfold M_way R_rounding jiushr
  have e1 : nI a / 1024 = nI (a / 1024) := pk_div (d := 1024) (by omega) (by decide) (by decide)
  have e2 : nI (a / 1024) - nI (a / 1024) / 4 * 4 = nI (a / 1024 % 4) := pk_rem (d := 4) (by omega) (by decide) (by decide)
  have e3 : ((nI a).toUInt32 >>> ((10 : Int32).toUInt32 &&& Int32.toUInt32 31)).toInt32 = nI (a >>> 10) := nx_ush (j := 10) ha (by decide)
  have e4 : nI (a >>> 10) &&& (3 : Int32) = nI ((a >>> 10) % 4) := fa_mask _ 2
  rw [e1, e2, e3, e4, Nat.shiftRight_eq_div_pow]
theorem unit_eq {t : Int32} (h1 : 0 ≤ t.toInt) (h2 : t.toInt ≤ 65535) : M_unit t = R_unit t := by
  obtain ⟨a, ha, rfl⟩ := top_of h1 h2
  unfold M_unit R_unit
  rw [rem_n ha, pow_n]
  have e0 : nI (a % 32768) = 0 ↔ a % 32768 = 0 := nI_eq (b := 0) (by omega) (by decide)
  have e1 : nI (a % 32768) < 1 ↔ a % 32768 < 1 := nI_ltI (b := 1) (by omega) (by decide)
  by_cases c : a % 32768 = 0
  · rw [if_pos (e0.mpr c), if_pos (e1.mpr (by omega))]
  · rw [if_neg (fun z => c (e0.mp z)), if_neg (fun z => by have := e1.mp z; omega)]
/-- twice a fraction is nothing -/
theorem dbl_0 (f : Int64) : jlshl f 1 = 0 ↔ f = 0 ∨ f = -9223372036854775808 := by
  have e : jlshl f 1 = f <<< ((1 : Int32).toInt64 &&& 63) := rfl
  have hu := uN_shl f
  have hl := uN_lt f
  have hi : ∀ x : Int64, uN x = 0 ↔ x = 0 := fun x => ⟨fun h => uN_inj (y := 0) h, fun h => by rw [h]; rfl⟩
  have hm : uN (-9223372036854775808) = 9223372036854775808 := rfl
  rw [e]
  constructor
  · intro h
    rw [h] at hu
    have h0 : uN (0 : Int64) = 0 := rfl
    rw [h0] at hu
    by_cases c : uN f = 0
    · exact Or.inl ((hi f).mp c)
    · exact Or.inr (uN_inj (by rw [hm]; omega))
  · rintro (h | h)
    · rw [h]; rfl
    · rw [h]; rfl
theorem kind_eq {t : Int32} (h1 : 0 ≤ t.toInt) (h2 : t.toInt ≤ 65535) (f : Int64) : M_kind t f = nI (R_kind t f) := by
  obtain ⟨a, ha, rfl⟩ := top_of h1 h2
  unfold M_kind R_kind
  rw [rem_n ha, pow_n]
  have e0 : nI (a % 32768) = 0 ↔ a % 32768 = 0 := nI_eq (b := 0) (by omega) (by decide)
  have e7 : nI (a % 32768) = 32767 ↔ a % 32768 = 32767 := nI_eq (b := 32767) (by omega) (by decide)
  have hd := dbl_0 f
  by_cases c0 : a % 32768 = 0
  · have n7 : ¬ nI (a % 32768) = 32767 := fun z => by have := e7.mp z; omega
    by_cases c : f = 0
    · simp only [if_neg n7, if_pos (e0.mpr c0), if_pos c]; rfl
    · simp only [if_neg n7, if_pos (e0.mpr c0), if_neg c]; rfl
  · have n0 : ¬ nI (a % 32768) = 0 := fun z => c0 (e0.mp z)
    by_cases c7 : a % 32768 = 32767
    · by_cases c : f = 0
      · simp only [if_neg n0, if_pos (e7.mpr c7), if_pos c, if_neg bIt, if_pos (hd.mpr (Or.inl c))]; rfl
      · by_cases c2 : f = -9223372036854775808
        · simp only [if_neg n0, if_pos (e7.mpr c7), if_neg c, if_pos c2, if_neg bIt, if_pos (hd.mpr (Or.inr c2))]; rfl
        · simp only [if_neg n0, if_pos (e7.mpr c7), if_neg c, if_neg c2, if_pos bIf, if_neg (fun z => (hd.mp z).elim c c2)]; rfl
    · have n7 : ¬ nI (a % 32768) = 32767 := fun z => c7 (e7.mp z)
      by_cases c : f < 0
      · simp only [if_neg n0, if_neg n7, if_pos c]; rfl
      · simp only [if_neg n0, if_neg n7, if_neg c]; rfl
theorem s_examine : S_examine := by
  intro tf ff cw td an qb pa cd ct tg fg tE aE qE pE aT aF dg fi lo ra hinv v k b w_cd h1 h2
  have hI := hinv
  obtain ⟨e1, e2, e3, e4, e5, hr, hc⟩ := hinv
  unfold R_examine at h1
  unfold M_examine at h2
  by_cases hn : R_need ra = true
  · obtain ⟨g1, g2, g3, g4⟩ := hr _ (need_lt hn)
    rw [if_pos hn] at h1
    rw [if_pos (none_0 hn), g1, g2, kind_eq g3 g4, minus_neg g3 g4] at h2
    have h3 : (R_seen (R_kind (tf ra.toNatClampNeg) (ff ra.toNatClampNeg)) + (if bI (R_neg (tf ra.toNatClampNeg)) = 0 then (0 : Int32) else (2 : Int32)), (0 : Int32)) = (v, k) := h1
    have hk := R_kind_lt (tf ra.toNatClampNeg) (ff ra.toNatClampNeg)
    generalize R_kind (tf ra.toNatClampNeg) (ff ra.toNatClampNeg) = kk at h2 h3 hk
    generalize R_neg (tf ra.toNatClampNeg) = ng at h2 h3
    obtain ⟨a1, a2⟩ := Prod.mk.inj h3
    obtain ⟨b1, b2⟩ := Prod.mk.inj h2
    refine ⟨by rw [← b2, ← a2], fun _ => ?_, hI⟩
    rw [← a1, ← b1]
    match kk, hk with
    | 0, _ => cases ng <;> rfl
    | 1, _ => cases ng <;> rfl
    | 2, _ => cases ng <;> rfl
    | 3, _ => cases ng <;> rfl
    | 4, _ => cases ng <;> rfl
    | 5, _ => cases ng <;> rfl
    | n + 6, h => exact absurd h (by omega)
  · rw [if_neg hn] at h1
    rw [if_neg (none_1 hn)] at h2
    obtain ⟨a1, a2⟩ := Prod.mk.inj h1
    obtain ⟨b1, b2⟩ := Prod.mk.inj h2
    refine ⟨by rw [← b2, ← a2], fun z => ?_, hI⟩
    rw [← a1, ← b1]
