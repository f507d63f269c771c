/-! making a real -/
theorem tup3_id {α β γ : Type} (p : α × β × γ) : tup3 p (fun a b c => (a, b, c)) = p := by obtain ⟨a, b, c⟩ := p; rfl
theorem way_w {c : Int32} (h1 : 0 ≤ c.toInt) (h2 : c.toInt ≤ 65535) : ∃ w, w < 4 ∧ R_rounding c = nI w ∧ M_way c = nI w := by
  obtain ⟨w, hw, e⟩ := pk_andE (jiushr c 10) (m := 3) 2 (by decide)
  exact ⟨w, hw, e, by rw [way_eq h1 h2]; exact e⟩
theorem tell_n {c : Int32} (h1 : 0 ≤ c.toInt) (h2 : c.toInt ≤ 65535) {d j : Nat} (hd : d < 64) (hj : j < 6) {b : Int32} (hb : b = nI (2 ^ j)) : M_tell c (nI d) b = (R_masked c b, nI (d ||| 2 ^ j)) := by
  unfold M_tell
  rw [masked_eq h1 h2 j hb (by omega)]
  refine congrArg (Prod.mk _) ?_
  rw [hb, ← fa_or]
  exact (tell_all d hd j hj).symm
theorem top_or (ng : Bool) {p : Int32} (h1 : 0 ≤ p.toInt) (h2 : p.toInt ≤ 32767) : (R_signOf ng ||| p) = (if bI ng = 0 then (0 : Int32) else (32768 : Int32)) + p ∧ 0 ≤ (R_signOf ng ||| p).toInt ∧ (R_signOf ng ||| p).toInt ≤ 65535 := by
  obtain ⟨a, ha, rfl⟩ := top_of h1 (by omega)
  rw [nI_toInt (by omega)] at h2
  unfold R_signOf
  cases ng
  · rw [if_pos bIf]
    have e1 : (0 : Int32) ||| nI a = nI a := by
      have := fa_or 0 a
      rw [Nat.zero_or] at this
      exact this
    have e2 : (0 : Int32) + nI a = nI a := Int32.zero_add _
    rw [e1, e2, nI_toInt (by omega)]
    exact ⟨rfl, by omega, by omega⟩
  · rw [if_neg bIt]
    have e1 : (32768 : Int32) ||| nI a = nI (32768 + a) := fa_or_sum (k := 15) 1 (by omega)
    have e2 : (32768 : Int32) + nI a = nI (32768 + a) := nI_add 32768 a
    rw [e1, e2, nI_toInt (by omega)]
    exact ⟨rfl, by omega, by omega⟩
theorem i32_eq {a b : Int32} (h : a.toInt = b.toInt) : a = b := Int32.toInt_inj.mp h
theorem shL_n : ∀ (m n x : Nat) (e : Int32), e.toInt = -(m : Int) → m < n → M_shL n (lN x) e = (lN (x * 2 ^ m), 0)
  | m, 0, x, e, h1, h2 => absurd h2 (by omega)
  | 0, n + 1, x, e, h1, h2 => by
    have z0 : (0 : Int32).toInt = 0 := rfl
    have : e = 0 := i32_eq (by rw [h1, z0]; rfl)
    rw [M_shL_S, this, if_pos (by decide), Nat.pow_zero, Nat.mul_one]
  | m + 1, n + 1, x, e, h1, h2 => by
    have z0 : (0 : Int32).toInt = 0 := rfl
    have z1 : (1 : Int32).toInt = 1 := rfl
    have hr := fb_rng e
    rw [M_shL_S, if_neg (by rw [ile, h1, z0]; omega), dbl_n, shL_n m n (2 * x) (e + 1) (by rw [fb_addI (by rw [z1]; omega) (by rw [z1]; omega), h1, z1]; omega) (by omega)]
    have : 2 * x * 2 ^ m = x * 2 ^ (m + 1) := by rw [Nat.pow_succ, Nat.mul_comm (2 ^ m) 2, ← Nat.mul_assoc, Nat.mul_comm 2 x]
    rw [this]
theorem Q_0 (w : Nat) (ng : Bool) (x : Nat) : Q_cut x 0 = false ∧ Q_rd w ng x 0 = x := by
  have h : Q_cut x 0 = false := by
    unfold Q_cut
    rw [Nat.pow_zero, Nat.mod_one]; rfl
  refine ⟨h, ?_⟩
  unfold Q_rd Q_up
  rw [h, Nat.pow_zero, Nat.div_one]
  rfl
theorem or_48 (d : Nat) : d ||| 16 ||| 32 = d ||| 48 := Nat.or_assoc d 16 32
theorem or_40 (d : Nat) : nI d ||| 8 ||| 32 = nI (d ||| 2 ^ 3 ||| 2 ^ 5) := by
  have e1 : nI d ||| (8 : Int32) = nI (d ||| 8) := fa_or d 8
  have e2 : nI (d ||| 8) ||| (32 : Int32) = nI (d ||| 8 ||| 32) := fa_or (d ||| 8) 32
  rw [e1, e2]
