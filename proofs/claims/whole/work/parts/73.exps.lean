/-! exponents -/
theorem addK {x k : Int32} {a b : Int} (hx : x.toInt = a) (hk : k.toInt = b) (h1 : -2147483648 ≤ a + b) (h2 : a + b < 2147483648) : (x + k).toInt = a + b := by
  subst hx hk
  exact fb_addI h1 h2
theorem subK {x k : Int32} {a b : Int} (hx : x.toInt = a) (hk : k.toInt = b) (h1 : -2147483648 ≤ a - b) (h2 : a - b < 2147483648) : (x - k).toInt = a - b := by
  subst hx hk
  exact fb_subI h1 h2
theorem ex_toInt {un : Int32} (hu1 : -40000 ≤ un.toInt) (hu2 : un.toInt ≤ 40000) {z : Nat} (hz : z < 64) : (un + 63 - nI z).toInt = un.toInt + 63 - z := by
  generalize hU : un.toInt = U at hu1 hu2
  exact subK (addK hU rfl (by omega) (by omega)) (nI_toInt (by omega)) (by omega) (by omega)
theorem mk_normal (ng : Bool) {ex : Int32} (h1 : -16382 ≤ ex.toInt) (h2 : ex.toInt ≤ 16383) : (R_signOf ng ||| (ex + 16383)) = (if bI ng = 0 then (0 : Int32) else (32768 : Int32)) + ex + 16383 ∧ 0 ≤ (R_signOf ng ||| (ex + 16383)).toInt ∧ (R_signOf ng ||| (ex + 16383)).toInt ≤ 65535 := by
  generalize hE : ex.toInt = E at h1 h2
  have e : (ex + 16383).toInt = E + 16383 := addK hE rfl (by omega) (by omega)
  rw [Int32.add_assoc]
  exact top_or ng (by rw [e]; omega) (by rw [e]; omega)
theorem mk_over (ng : Bool) {ex : Int32} (h1 : 16383 < ex.toInt) (h2 : ex.toInt ≤ 40950) : (R_signOf ng ||| (ex - 24576 + 16383)) = (if bI ng = 0 then (0 : Int32) else (32768 : Int32)) + ex + 16383 - 24576 ∧ 0 ≤ (R_signOf ng ||| (ex - 24576 + 16383)).toInt ∧ (R_signOf ng ||| (ex - 24576 + 16383)).toInt ≤ 65535 := by
  generalize hE : ex.toInt = E at h1 h2
  have e0 : (ex - 24576).toInt = E - 24576 := subK hE rfl (by omega) (by omega)
  have e : (ex - 24576 + 16383).toInt = E - 24576 + 16383 := addK e0 rfl (by omega) (by omega)
  have ea : ∀ s : Int32, s + ex + 16383 - 24576 = s + (ex - 24576 + 16383) := by
    intro s
    rw [Int32.sub_eq_add_neg, Int32.sub_eq_add_neg]
    generalize (-24576 : Int32) = c
    generalize (16383 : Int32) = g
    ac_rfl
  rw [ea]
  exact top_or ng (by rw [e]; omega) (by rw [e]; omega)
theorem mk_under (ng : Bool) {ex : Int32} (h1 : -40950 ≤ ex.toInt) (h2 : ex.toInt < -16382) : (R_signOf ng ||| (ex + 24576 + 16383)) = (if bI ng = 0 then (0 : Int32) else (32768 : Int32)) + ex + 16383 + 24576 ∧ 0 ≤ (R_signOf ng ||| (ex + 24576 + 16383)).toInt ∧ (R_signOf ng ||| (ex + 24576 + 16383)).toInt ≤ 65535 := by
  generalize hE : ex.toInt = E at h1 h2
  have e0 : (ex + 24576).toInt = E + 24576 := addK hE rfl (by omega) (by omega)
  have e : (ex + 24576 + 16383).toInt = E + 24576 + 16383 := addK e0 rfl (by omega) (by omega)
  have ea : ∀ s : Int32, s + ex + 16383 + 24576 = s + (ex + 24576 + 16383) := by
    intro s
    generalize (24576 : Int32) = c
    generalize (16383 : Int32) = g
    ac_rfl
  rw [ea]
  exact top_or ng (by rw [e]; omega) (by rw [e]; omega)
theorem un_cases {un ex : Int32} {z : Nat} (hz : z < 64) (hu1 : -40000 ≤ un.toInt) (hu2 : un.toInt ≤ 40000) (hex : ex.toInt = un.toInt + 63 - z) (hlt : ex.toInt < -16382) :
    (∃ m : Nat, (-16445 - un) ≤ 0 ∧ (-16445 - un).toInt = -(m : Int) ∧ m < z ∧ -16382 - ex = nI (z - m)) ∨ (∃ s : Nat, ¬ (-16445 - un) ≤ 0 ∧ 1 ≤ s ∧ s < 30000 ∧ -16445 - un = nI s ∧ -16382 - ex = nI (s + z)) := by
  generalize hU : un.toInt = U at hu1 hu2 hex
  have z0 : (0 : Int32).toInt = 0 := rfl
  have y1 : (-16445 - un).toInt = -16445 - U := subK rfl hU (by omega) (by omega)
  have y2 : (-16382 - ex).toInt = -16382 - (U + 63 - z) := subK rfl hex (by omega) (by omega)
  rw [hex] at hlt
  rw [ile, y1, z0]
  by_cases c : -16445 - U ≤ 0
  · refine Or.inl ⟨(16445 + U).toNat, c, by omega, by omega, ?_⟩
    refine i32_eq ?_
    rw [y2, nI_toInt (by omega)]
    omega
  · refine Or.inr ⟨(-16445 - U).toNat, c, by omega, by omega, ?_, ?_⟩
    · refine i32_eq ?_
      rw [y1, nI_toInt (by omega)]
      omega
    · refine i32_eq ?_
      rw [y2, nI_toInt (by omega)]
      omega
theorem tops_b (ng b : Bool) : (R_signOf ng ||| bI b) = (if bI ng = 0 then (0 : Int32) else (32768 : Int32)) + bI b ∧ 0 ≤ (R_signOf ng ||| bI b).toInt ∧ (R_signOf ng ||| bI b).toInt ≤ 65535 := by
  cases b
  · exact top_or ng (p := 0) (by decide) (by decide)
  · exact top_or ng (p := 1) (by decide) (by decide)
