/-! comparing without a sign -/
theorem min_n {a : Nat} (h : a < 2 ^ 64) : (lN a + (-9223372036854775808)).toInt = (a : Int) - 2 ^ 63 := by
  have e : (-9223372036854775808 : Int64) = lN (2 ^ 63) := by decide +kernel
  rw [e, lN_add, wb_mod, lN_ti (Nat.mod_lt _ (by decide))]
  by_cases c : a < 2 ^ 63
  · rw [if_neg (by omega)]; omega
  · rw [if_pos (by omega)]; omega
theorem less_n {a b : Nat} (ha : a < 2 ^ 64) (hb : b < 2 ^ 64) : M_less (lN a) (lN b) = decide (a < b) := by
  unfold M_less
  by_cases c : a < b
  · rw [if_pos (by rw [fa_lt64, min_n ha, min_n hb]; omega), decide_eq_true c]
  · rw [if_neg (by rw [fa_lt64, min_n ha, min_n hb]; omega), decide_eq_false c]
theorem cmpU_n {a b : Nat} (ha : a < 2 ^ 64) (hb : b < 2 ^ 64) : J_cmpU (lN a) (lN b) = (if a < b then -1 else if a = b then 0 else 1) := by
  unfold J_cmpU J_cmp
  by_cases c : a < b
  · rw [if_pos (by rw [fa_lt64, min_n ha, min_n hb]; omega), if_pos c]
  · rw [if_neg (by rw [fa_lt64, min_n ha, min_n hb]; omega), if_neg c]
    by_cases d : a = b
    · rw [if_pos d, if_pos (by rw [d])]
    · rw [if_neg d, if_neg (fun q => by
        have := congrArg Int64.toInt q
        rw [min_n ha, min_n hb] at this
        omega)]
theorem cmpU_lt {a b : Nat} (ha : a < 2 ^ 64) (hb : b < 2 ^ 64) : J_cmpU (lN a) (lN b) < 0 ↔ a < b := by
  rw [cmpU_n ha hb]
  by_cases c : a < b
  · rw [if_pos c]; exact ⟨fun _ => c, fun _ => by decide⟩
  · rw [if_neg c]
    by_cases d : a = b
    · rw [if_pos d]; exact ⟨fun q => absurd q (by decide), fun q => absurd q c⟩
    · rw [if_neg d]; exact ⟨fun q => absurd q (by decide), fun q => absurd q c⟩
theorem cmpU_le {a b : Nat} (ha : a < 2 ^ 64) (hb : b < 2 ^ 64) : J_cmpU (lN a) (lN b) ≤ 0 ↔ a ≤ b := by
  rw [cmpU_n ha hb]
  by_cases c : a < b
  · rw [if_pos c]; exact ⟨fun _ => by omega, fun _ => by decide⟩
  · rw [if_neg c]
    by_cases d : a = b
    · rw [if_pos d]; exact ⟨fun q => by omega, fun q => by decide⟩
    · rw [if_neg d]; exact ⟨fun q => absurd q (by decide), fun q => by omega⟩
theorem cmpU_ge {a b : Nat} (ha : a < 2 ^ 64) (hb : b < 2 ^ 64) : 0 ≤ J_cmpU (lN a) (lN b) ↔ b ≤ a := by
  rw [cmpU_n ha hb]
  by_cases c : a < b
  · rw [if_pos c]; exact ⟨fun q => absurd q (by decide), fun q => by omega⟩
  · rw [if_neg c]
    by_cases d : a = b
    · rw [if_pos d]; exact ⟨fun q => by omega, fun q => by decide⟩
    · rw [if_neg d]; exact ⟨fun q => by omega, fun q => by decide⟩
/-! what a rounding is -/
def Q_half (x s : Nat) : Bool := decide (2 ^ s ≤ 2 * (x % 2 ^ s))
def Q_rest (x s : Nat) : Bool := decide (2 * (x % 2 ^ s) % 2 ^ s ≠ 0)
def Q_cut (x s : Nat) : Bool := decide (x % 2 ^ s ≠ 0)
def Q_up (w : Nat) (ng : Bool) (x s : Nat) : Bool := Q_cut x s && (if w = 1 then ng else if w = 2 then !ng else if w = 3 then false else decide (2 ^ s < 2 * (x % 2 ^ s) ∨ (2 * (x % 2 ^ s) = 2 ^ s ∧ x / 2 ^ s % 2 = 1)))
def Q_rd (w : Nat) (ng : Bool) (x s : Nat) : Nat := x / 2 ^ s + (if Q_up w ng x s = true then 1 else 0)
theorem Q_div (x s z : Nat) : x * 2 ^ z / 2 ^ (s + z) = x / 2 ^ s := by
  rw [Nat.pow_add]; exact Nat.mul_div_mul_right _ _ (Nat.two_pow_pos z)
theorem Q_mod (x s z : Nat) : x * 2 ^ z % 2 ^ (s + z) = x % 2 ^ s * 2 ^ z := by
  rw [Nat.pow_add]; exact Nat.mul_mod_mul_right _ _ _
theorem Q_cut_z (x s z : Nat) : Q_cut (x * 2 ^ z) (s + z) = Q_cut x s := by
  unfold Q_cut
  rw [Q_mod]
  refine decide_eq_decide.mpr ?_
  have hp := Nat.two_pow_pos z
  constructor
  · intro h q; exact h (by rw [q, Nat.zero_mul])
  · intro h q
    rcases Nat.mul_eq_zero.mp q with c | c
    · exact h c
    · omega
theorem Q_up_z (w : Nat) (ng : Bool) (x s z : Nat) : Q_up w ng (x * 2 ^ z) (s + z) = Q_up w ng x s := by
  unfold Q_up
  rw [Q_cut_z, Q_mod, Q_div]
  have hp := Nat.two_pow_pos z
  have e1 : 2 ^ (s + z) < 2 * (x % 2 ^ s * 2 ^ z) ↔ 2 ^ s < 2 * (x % 2 ^ s) := by
    rw [Nat.pow_add, ← Nat.mul_assoc]
    exact Nat.mul_lt_mul_right hp
  have e2 : 2 * (x % 2 ^ s * 2 ^ z) = 2 ^ (s + z) ↔ 2 * (x % 2 ^ s) = 2 ^ s := by
    rw [Nat.pow_add, ← Nat.mul_assoc]
    exact ⟨fun h => Nat.eq_of_mul_eq_mul_right hp h, fun h => by rw [h]⟩
  rw [decide_eq_decide.mpr (or_congr e1 (and_congr e2 Iff.rfl))]
theorem Q_rd_z (w : Nat) (ng : Bool) (x s z : Nat) : Q_rd w ng (x * 2 ^ z) (s + z) = Q_rd w ng x s := by
  unfold Q_rd
  rw [Q_up_z, Q_div]
theorem Q_cut_hr (x s : Nat) : Q_cut x s = (Q_half x s || Q_rest x s) := by
  unfold Q_cut Q_half Q_rest
  rw [← Bool.decide_or]
  refine decide_eq_decide.mpr ?_
  have hp := Nat.two_pow_pos s
  have hl : x % 2 ^ s < 2 ^ s := Nat.mod_lt _ hp
  generalize x % 2 ^ s = r at hl
  generalize 2 ^ s = P at hp hl
  constructor
  · intro h
    by_cases c : P ≤ 2 * r
    · exact Or.inl c
    · right; rw [Nat.mod_eq_of_lt (by omega)]; omega
  · rintro (h | h)
    · omega
    · intro q; rw [q] at h; exact h (Nat.zero_mod _)
theorem Q_near (x s : Nat) : decide (2 ^ s < 2 * (x % 2 ^ s) ∨ (2 * (x % 2 ^ s) = 2 ^ s ∧ x / 2 ^ s % 2 = 1)) = (Q_half x s && (Q_rest x s || decide (x / 2 ^ s % 2 = 1))) := by
  unfold Q_half Q_rest
  rw [← Bool.decide_or, ← Bool.decide_and]
  refine decide_eq_decide.mpr ?_
  have hp := Nat.two_pow_pos s
  have hl : x % 2 ^ s < 2 ^ s := Nat.mod_lt _ hp
  generalize x / 2 ^ s % 2 = o
  generalize x % 2 ^ s = r at hl
  generalize 2 ^ s = P at hp hl
  by_cases c : P ≤ 2 * r
  · have e : 2 * r % P = 2 * r - P := by rw [Nat.mod_eq_sub_mod c, Nat.mod_eq_of_lt (by omega)]
    rw [e]
    omega
  · omega
theorem Q_big {x s : Nat} (h0 : 0 < x) (h : x < 2 ^ 64) (hs : 64 < s) : x % 2 ^ s = x ∧ x / 2 ^ s = 0 ∧ 2 * x < 2 ^ s := by
  have hp : (2 : Nat) ^ 65 ≤ 2 ^ s := Nat.pow_le_pow_right (by decide) hs
  have e65 : (2 : Nat) ^ 65 = 36893488147419103232 := by decide
  have e64 : (2 : Nat) ^ 64 = 18446744073709551616 := by decide
  rw [e65] at hp
  rw [e64] at h
  exact ⟨Nat.mod_eq_of_lt (by omega), Nat.div_eq_of_lt (by omega), by omega⟩
/-! the class's rounding -/
theorem isCut_n {x s : Nat} (h0 : 0 < x) (h : x < 2 ^ 64) (h1 : 1 ≤ s) (h2 : s < 2 ^ 31) : R_isCut (lN x) (nI s) = Q_cut x s := by
  unfold R_isCut Q_cut
  have e : (63 : Int32) < nI s ↔ 63 < s := nI_ltI (a := 63) (by decide) h2
  by_cases c : 63 < s
  · rw [if_pos (e.mpr c)]
    have hp : (2 : Nat) ^ 64 ≤ 2 ^ s := Nat.pow_le_pow_right (by decide) c
    have : x % 2 ^ s = x := Nat.mod_eq_of_lt (by omega)
    rw [this]
    exact (decide_eq_true (by omega)).symm
  · rw [if_neg (fun q => c (e.mp q))]
    have e2 : (64 : Int32) - nI s = nI (64 - s) := pk_sub (a := 64) (by omega)
    have e3 : jlshl (lN x) (nI (64 - s)) = lN (x * 2 ^ (64 - s)) := wb_shl x (by omega)
    have e4 : x * 2 ^ (64 - s) % 2 ^ 64 = x % 2 ^ s * 2 ^ (64 - s) := by
      have : (2 : Nat) ^ 64 = 2 ^ s * 2 ^ (64 - s) := by rw [← Nat.pow_add]; refine congrArg _ ?_; omega
      rw [this]
      exact Nat.mul_mod_mul_right _ _ _
    have hp := Nat.two_pow_pos (64 - s)
    rw [e2, e3, wb_mod, e4]
    have hl : x % 2 ^ s * 2 ^ (64 - s) < 2 ^ 64 := by rw [← e4]; exact Nat.mod_lt _ (by decide)
    by_cases d : x % 2 ^ s = 0
    · rw [if_pos ((lN_z hl).mpr (by rw [d, Nat.zero_mul])), decide_eq_false (fun q => q d)]
    · rw [if_neg (fun q => by
        rcases Nat.mul_eq_zero.mp ((lN_z hl).mp q) with c | c
        · exact d c
        · omega), decide_eq_true d]
theorem kept_n {x s : Nat} (h : x < 2 ^ 64) (h2 : s < 2 ^ 31) : (if nI s ≤ 63 then jlushr (lN x) (nI s) else (0 : Int64)) = lN (x / 2 ^ s) := by
  have e : nI s ≤ (63 : Int32) ↔ s ≤ 63 := nI_leI (b := 63) h2 (by decide)
  by_cases c : s ≤ 63
  · rw [if_pos (e.mpr c)]
    exact wb_shr h (by omega)
  · rw [if_neg (fun q => c (e.mp q))]
    have hp : (2 : Nat) ^ 64 ≤ 2 ^ s := Nat.pow_le_pow_right (by decide) (by omega)
    rw [Nat.div_eq_of_lt (by omega)]
    rfl
theorem nearer_n {x s : Nat} (h0 : 0 < x) (h : x < 2 ^ 64) (h1 : 1 ≤ s) (h2 : s < 2 ^ 31) : R_nearer (lN x) (nI s) (lN (x / 2 ^ s)) = decide (2 ^ s < 2 * (x % 2 ^ s) ∨ (2 * (x % 2 ^ s) = 2 ^ s ∧ x / 2 ^ s % 2 = 1)) := by
  unfold R_nearer
  have e : nI s ≤ (63 : Int32) ↔ s ≤ 63 := nI_leI (b := 63) h2 (by decide)
  have e4 : nI s ≤ (64 : Int32) ↔ s ≤ 64 := nI_leI (b := 64) h2 (by decide)
  have hq : x / 2 ^ s < 2 ^ 64 := Nat.lt_of_le_of_lt (Nat.div_le_self _ _) h
  by_cases c : s ≤ 64
  · rw [if_pos (e4.mpr c)]
    have er : (if nI s ≤ 63 then lN x - jlshl (lN (x / 2 ^ s)) (nI s) else lN x) = lN (x % 2 ^ s) := by
      by_cases d : s ≤ 63
      · rw [if_pos (e.mpr d)]
        have e5 : jlshl (lN (x / 2 ^ s)) (nI s) = lN (x / 2 ^ s * 2 ^ s) := wb_shl _ (by omega)
        have e6 := Nat.div_add_mod x (2 ^ s)
        rw [Nat.mul_comm] at e6
        rw [e5, lN_sub (by omega)]
        refine congrArg lN ?_
        omega
      · rw [if_neg (fun q => d (e.mp q))]
        have : s = 64 := by omega
        rw [this, Nat.mod_eq_of_lt h]
    have eh : jlshl 1 (nI s - 1) = lN (2 ^ (s - 1)) := by
      have e5 : nI s - (1 : Int32) = nI (s - 1) := pk_sub (b := 1) h1
      have e6 : jlshl (lN 1) (nI (s - 1)) = lN (1 * 2 ^ (s - 1)) := wb_shl 1 (by omega)
      rw [e5]
      rw [Nat.one_mul] at e6
      exact e6
    have hr : x % 2 ^ s < 2 ^ 64 := Nat.lt_of_le_of_lt (Nat.mod_le _ _) h
    have hh : 2 ^ (s - 1) < 2 ^ 64 := Nat.pow_lt_pow_right (by decide) (by omega)
    have hp : 2 ^ s = 2 * 2 ^ (s - 1) := by
      obtain ⟨d, rfl⟩ : ∃ d, s = d + 1 := ⟨s - 1, by omega⟩
      rw [Nat.pow_succ, Nat.mul_comm]; rfl
    rw [er, eh]
    by_cases d : x % 2 ^ s = 2 ^ (s - 1)
    · rw [if_pos (by rw [d])]
      have e7 : lN (x / 2 ^ s) &&& 1 = lN (x / 2 ^ s % 2) := wb_a1 hq
      rw [e7]
      by_cases o : x / 2 ^ s % 2 = 0
      · rw [if_pos (by rw [o]; rfl)]
        exact (decide_eq_false (by omega)).symm
      · rw [if_neg (fun q => o ((lN_z (by omega)).mp q))]
        exact (decide_eq_true (by omega)).symm
    · rw [if_neg (fun q => d ((lN_inj hr hh).mp q))]
      by_cases o : x % 2 ^ s ≤ 2 ^ (s - 1)
      · rw [if_pos ((cmpU_le hr hh).mpr o)]
        exact (decide_eq_false (by omega)).symm
      · rw [if_neg (fun q => o ((cmpU_le hr hh).mp q))]
        exact (decide_eq_true (by omega)).symm
  · rw [if_neg (fun q => c (e4.mp q))]
    obtain ⟨a1, a2, a3⟩ := Q_big h0 h (by omega : 64 < s)
    rw [a1]
    exact (decide_eq_false (by omega)).symm
def R_away (cw : Int32) (ng : Bool) (fr : Int64) (sh : Int32) (kp : Int64) : Bool :=
  if (R_rounding cw) = 1 then ng
  else if (R_rounding cw) = 2 then (if bI ng = 0 then true else false)
  else if (R_rounding cw) = 3 then false
  else (R_nearer fr sh kp)
theorem R_rounded_away (cw : Int32) (ng : Bool) (fr : Int64) (sh : Int32) : R_rounded cw ng fr sh = (if bI (R_isCut fr sh) = 0 then (if sh ≤ 63 then (jlushr fr sh) else (0 : Int64)) else if bI (R_away cw ng fr sh (if sh ≤ 63 then (jlushr fr sh) else (0 : Int64))) = 0 then (if sh ≤ 63 then (jlushr fr sh) else (0 : Int64)) else ((if sh ≤ 63 then (jlushr fr sh) else (0 : Int64)) + 1)) := by
  unfold R_rounded R_away
  generalize (if sh ≤ 63 then (jlushr fr sh) else (0 : Int64)) = k
  by_cases c1 : R_rounding cw = 1
  · rw [if_pos c1, if_pos c1]
  · rw [if_neg c1, if_neg c1]
    by_cases c2 : R_rounding cw = 2
    · rw [if_pos c2, if_pos c2]
    · rw [if_neg c2, if_neg c2]
      by_cases c3 : R_rounding cw = 3
      · rw [if_pos c3, if_pos c3, if_pos (by decide : bI false = 0)]
      · rw [if_neg c3, if_neg c3]
theorem R_rounded_n {cw : Int32} {w : Nat} (hw : R_rounding cw = nI w) (hw4 : w < 4) {x s : Nat} (ng : Bool) (h0 : 0 < x) (h : x < 2 ^ 64) (h1 : 1 ≤ s) (h2 : s < 2 ^ 31) : R_rounded cw ng (lN x) (nI s) = lN (Q_rd w ng x s) := by
  rw [R_rounded_away]
  rw [kept_n h h2, isCut_n h0 h h1 h2]
  have ha : R_away cw ng (lN x) (nI s) (lN (x / 2 ^ s)) = (if w = 1 then ng else if w = 2 then !ng else if w = 3 then false else decide (2 ^ s < 2 * (x % 2 ^ s) ∨ (2 * (x % 2 ^ s) = 2 ^ s ∧ x / 2 ^ s % 2 = 1))) := by
    unfold R_away
    rw [hw, nearer_n h0 h h1 h2]
    match w, hw4 with
    | 0, _ => rfl
    | 1, _ => rfl
    | 2, _ => cases ng <;> rfl
    | 3, _ => rfl
    | n + 4, q => exact absurd q (by omega)
  rw [ha]
  unfold Q_rd Q_up
  generalize (if w = 1 then ng else if w = 2 then !ng else if w = 3 then false else decide (2 ^ s < 2 * (x % 2 ^ s) ∨ (2 * (x % 2 ^ s) = 2 ^ s ∧ x / 2 ^ s % 2 = 1))) = a
  cases Q_cut x s <;> cases a
  · rfl
  · rfl
  · rfl
  · exact lN_1 _
