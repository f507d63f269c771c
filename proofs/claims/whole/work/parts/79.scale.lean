/-! times a power of two -/
theorem need_nn {r : Int32} (h : R_need r = true) : ¬ r < 0 := by
  intro c
  unfold R_need at h
  rw [if_pos c] at h
  exact absurd h (by decide)
theorem fin_set {tf : Nat → Int32} {ff : Nat → Int64} {cw td : Int32} {an : Bool} {qb : Int32} {pa : Bool} {ct : Int32} {tg : Nat → Int32} {fg : Nat → Int64} {tE : Int32} {aE : Bool} {qE : Int32} {pE : Bool} (hI : INV tf ff cw td an qb pa ct tg fg tE aE qE pE) {β : Type} {rest rest' : β} {rc t D : Int32} {f : Int64} {A : Bool} {v k : Int32} {u_tf : Nat → Int32} {u_ff : Nat → Int64} {u_td : Int32} {u_an : Bool} {b w_cd : Int32} {w_tf : Nat → Int32} {w_ff : Nat → Int64} {w_td : Int32} {w_an : Bool} (r1 : 0 ≤ t.toInt) (r2 : t.toInt ≤ 65535) (h1 : (D, (0 : Int32), upd tf rc.toNatClampNeg t, vp_updL ff rc.toNatClampNeg f, D, A) = (v, k, u_tf, u_ff, u_td, u_an)) (h2 : (D, (0 : Int32), upd tg rc.toNatClampNeg t, vp_updL fg rc.toNatClampNeg f, D, A, rest) = (b, w_cd, w_tf, w_ff, w_td, w_an, rest')) : w_cd = k ∧ (k = 0 → v = b) ∧ INV u_tf u_ff cw u_td u_an qb pa ct w_tf w_ff w_td w_an qE pE := by
  obtain ⟨a1, a2, a3, a4, a5, a6⟩ := out6 h1
  obtain ⟨b1, b2, b3, b4, b5, b6⟩ := out9 h2
  rw [a1, a2, a3, a4, a5, a6, b1, b2, b3, b4, b5, b6]
  exact ⟨rfl, fun _ => rfl, inv_set hI _ r1 r2 _ _⟩
theorem fin_same {tf : Nat → Int32} {ff : Nat → Int64} {cw td : Int32} {an : Bool} {qb : Int32} {pa : Bool} {ct : Int32} {tg : Nat → Int32} {fg : Nat → Int64} {tE : Int32} {aE : Bool} {qE : Int32} {pE : Bool} (hI : INV tf ff cw td an qb pa ct tg fg tE aE qE pE) {β : Type} {rest rest' : β} {K : Int32} {v k : Int32} {u_tf : Nat → Int32} {u_ff : Nat → Int64} {u_td : Int32} {u_an : Bool} {b w_cd : Int32} {w_tf : Nat → Int32} {w_ff : Nat → Int64} {w_td : Int32} {w_an : Bool} (h1 : ((0 : Int32), K, tf, ff, td, an) = (v, k, u_tf, u_ff, u_td, u_an)) (h2 : ((0 : Int32), K, tg, fg, tE, aE, rest) = (b, w_cd, w_tf, w_ff, w_td, w_an, rest')) : w_cd = k ∧ (k = 0 → v = b) ∧ INV u_tf u_ff cw u_td u_an qb pa ct w_tf w_ff w_td w_an qE pE := by
  obtain ⟨a1, a2, a3, a4, a5, a6⟩ := out6 h1
  obtain ⟨b1, b2, b3, b4, b5, b6⟩ := out9 h2
  rw [a1, a2, a3, a4, a5, a6, b1, b2, b3, b4, b5, b6]
  exact ⟨rfl, fun _ => rfl, hI⟩
theorem fin_sub {tf : Nat → Int32} {ff : Nat → Int64} {cw td : Int32} {an : Bool} {qb : Int32} {pa : Bool} {ct : Int32} {tg : Nat → Int32} {fg : Nat → Int64} {tE : Int32} {aE : Bool} {qE : Int32} {pE : Bool} (hI : INV tf ff cw td an qb pa ct tg fg tE aE qE pE) {β : Type} {rest rest' : β} {rc D : Int32} {a : Bool} {tx ty : Int32} {fx fy : Int64} (hx1 : 0 ≤ tx.toInt) (hx2 : tx.toInt ≤ 65535) (hy1 : 0 ≤ ty.toInt) (hy2 : ty.toInt ≤ 65535) {aT : Int32} {aF : Int64} (hs : a = true → R_subst tx fx ty fy = (aT, aF)) {v k : Int32} {u_tf : Nat → Int32} {u_ff : Nat → Int64} {u_td : Int32} {u_an : Bool} {b w_cd : Int32} {w_tf : Nat → Int32} {w_ff : Nat → Int64} {w_td : Int32} {w_an : Bool} (h1 : (if bI a = 0 then (D, (0 : Int32), tf, ff, D, a) else tup2 (R_subst tx fx ty fy) (fun vt vf => tup2 (R_write tf ff rc vt vf) (fun otf off => (D, (0 : Int32), otf, off, D, a)))) = (v, k, u_tf, u_ff, u_td, u_an)) (h2 : tup2 (M_keep tg fg (if false = true then false else a) aT aF rc) (fun otf off => (D, (0 : Int32), otf, off, D, (if false = true then false else a), rest)) = (b, w_cd, w_tf, w_ff, w_td, w_an, rest')) : w_cd = k ∧ (k = 0 → v = b) ∧ INV u_tf u_ff cw u_td u_an qb pa ct w_tf w_ff w_td w_an qE pE := by
  have e : (if false = true then false else a) = a := if_neg (by decide)
  rw [e] at h2
  cases a
  · rw [if_pos bIf] at h1
    rw [tup2_e keep_f] at h2
    obtain ⟨a1, a2, a3, a4, a5, a6⟩ := out6 h1
    obtain ⟨b1, b2, b3, b4, b5, b6⟩ := out9 h2
    rw [a1, a2, a3, a4, a5, a6, b1, b2, b3, b4, b5, b6]
    exact ⟨rfl, fun _ => rfl, inv_tell hI _ _⟩
  · have hsub := hs rfl
    obtain ⟨r1, r2⟩ := subst_rng hx1 hx2 hy1 hy2 hsub
    rw [if_neg bIt, tup2_e hsub, tup2_e (write_e _ _ _ _ _)] at h1
    rw [tup2_e keep_t] at h2
    exact fin_set hI r1 r2 h1 h2
theorem apart_n {t : Int32} (h1 : 0 ≤ t.toInt) (h2 : t.toInt ≤ 65535) {f : Int64} (hf : ¬ f = 0) : M_apart t f = (R_norm f, R_exp t f) := by
  obtain ⟨x, z, x0, hx, e, hz, hj, g1, g2, hn⟩ := frac hf
  unfold M_apart
  rw [unit_eq h1 h2, exp_n hj, hn, e, apL_n z 64 x _ (by omega) x0 g1 g2]
  rfl
theorem shl_neg {X k : Nat} (hk : k < 64) : (jlshl (lN X) (nI k) < 0) ↔ X / 2 ^ (63 - k) % 2 = 1 := by
  have e1 : jlshl (lN X) (nI k) = lN (X * 2 ^ k) := wb_shl X hk
  rw [e1, wb_mod, neg_L (Nat.mod_lt _ (by decide))]
  have e2 : (2 : Nat) ^ 64 = 2 ^ (64 - k) * 2 ^ k := by rw [← Nat.pow_add]; refine congrArg _ ?_; omega
  have e3 : (2 : Nat) ^ 63 = 2 ^ (63 - k) * 2 ^ k := by rw [← Nat.pow_add]; refine congrArg _ ?_; omega
  have e4 : 64 - k = (63 - k) + 1 := by omega
  have hp := Nat.two_pow_pos k
  have hq := Nat.two_pow_pos (63 - k)
  rw [e2, e3, Nat.mul_mod_mul_right, e4]
  have e5 : X % 2 ^ (63 - k + 1) = X % 2 ^ (63 - k) + 2 ^ (63 - k) * (X / 2 ^ (63 - k) % 2) := by rw [Nat.pow_succ]; exact Nat.mod_mul
  have hl : X % 2 ^ (63 - k) < 2 ^ (63 - k) := Nat.mod_lt _ hq
  have h2 : X / 2 ^ (63 - k) % 2 = 0 ∨ X / 2 ^ (63 - k) % 2 = 1 := by omega
  constructor
  · intro h
    have h6 := Nat.le_of_mul_le_mul_right h hp
    rw [e5] at h6
    rcases h2 with c | c
    · rw [c] at h6; omega
    · exact c
  · intro h
    refine Nat.mul_le_mul_right _ ?_
    rw [e5, h]; omega
theorem scL_n {X E : Nat} (hE : E < 60) : ∀ (n k : Nat), k ≤ E + 1 → E + 1 - k < n → M_scL (lN X) (nI E) n (nI (X / 2 ^ (64 - k))) (nI k) = (nI (X / 2 ^ (63 - E)), nI (E + 1))
  | 0, k, h1, h2 => absurd h2 (by omega)
  | n + 1, k, h1, h2 => by
    have e1 : nI E < nI k ↔ E < k := nI_ltI (by omega) (by omega)
    rw [M_scL_S]
    by_cases c : E < k
    · have : k = E + 1 := by omega
      have e2 : 64 - k = 63 - E := by omega
      rw [if_pos (e1.mpr c), e2, this]
    · rw [if_neg (fun q => c (e1.mp q))]
      have hs := shl_neg (X := X) (k := k) (by omega)
      have e4 : 64 - k = (63 - k) + 1 := by omega
      have e5 : X / 2 ^ (63 - k) = 2 * (X / 2 ^ (64 - k)) + X / 2 ^ (63 - k) % 2 := by
        rw [e4, Nat.pow_succ, ← Nat.div_div_eq_div_mul]; omega
      have e6 : (2 * nI (X / 2 ^ (64 - k))) + bI (if jlshl (lN X) (nI k) < 0 then true else false) = nI (X / 2 ^ (63 - k)) := by
        have m2 : 2 * nI (X / 2 ^ (64 - k)) = nI (2 * (X / 2 ^ (64 - k))) := pk_mul 2 _
        rw [m2]
        by_cases d : X / 2 ^ (63 - k) % 2 = 1
        · rw [if_pos (hs.mpr d)]
          have b1 : bI true = nI 1 := rfl
          rw [b1, nI_add]
          refine congrArg nI ?_
          omega
        · rw [if_neg (fun q => d (hs.mp q))]
          have b1 : bI false = nI 0 := rfl
          rw [b1, nI_add]
          refine congrArg nI ?_
          omega
      have e7 : 63 - k = 64 - (k + 1) := by omega
      rw [e6, nI_1, e7]
      exact scL_n hE n (k + 1) (by omega) (by omega)
/-- how far b shifts -/
theorem cut_eq {t : Int32} (h1 : 0 ≤ t.toInt) (h2 : t.toInt ≤ 65535) {f : Int64} (hk : ¬ R_kind t f = 4) (hf : ¬ f = 0) (h14 : R_exp t f < 14) : ∃ (v1 v2 : Int32), M_scL (R_norm f) (R_exp t f) (((R_exp t f).toInt + 1).toNat + 1) 0 0 = (v1, v2) ∧ R_cutOff t f = (if bI (R_neg t) = 0 then v1 else -v1) ∧ -16384 < (R_cutOff t f).toInt ∧ (R_cutOff t f).toInt < 16384 := by
  obtain ⟨x, z, x0, hx, e, hz, hj, g1, g2, hn⟩ := frac hf
  have z0 : (0 : Int32).toInt = 0 := rfl
  have z14 : (14 : Int32).toInt = 14 := rfl
  unfold R_cutOff
  rw [nought_f hk, decide_eq_false hf, if_pos bIf, hn]
  by_cases c : 0 ≤ R_exp t f
  · rw [if_pos c]
    rw [ile, z0] at c
    rw [ilt, z14] at h14
    obtain ⟨E, hE⟩ : ∃ E : Nat, (R_exp t f).toInt = (E : Int) := ⟨(R_exp t f).toInt.toNat, by omega⟩
    have hE14 : E < 14 := by omega
    have eE : R_exp t f = nI E := i32_eq (by rw [hE, nI_toInt (by omega)])
    rw [eE]
    have e63 : (63 : Int32) - nI E = nI (63 - E) := pk_sub (a := 63) (by omega)
    have esh : jlushr (lN (x * 2 ^ z)) (nI (63 - E)) = lN (x * 2 ^ z / 2 ^ (63 - E)) := wb_shr g2 (by omega)
    have hl := scL_n (X := x * 2 ^ z) (E := E) (by omega) (((nI E).toInt + 1).toNat + 1) 0 (by omega) (by rw [nI_toInt (by omega)]; omega)
    have hd0 : x * 2 ^ z / 2 ^ (64 - 0) = 0 := Nat.div_eq_of_lt g2
    rw [hd0] at hl
    have hq : x * 2 ^ z / 2 ^ (63 - E) < 16384 := by
      have e2 : (2 : Nat) ^ 64 = 2 ^ (E + 1) * 2 ^ (63 - E) := by rw [← Nat.pow_add]; refine congrArg _ ?_; omega
      have e3 : (2 : Nat) ^ (E + 1) ≤ 2 ^ 14 := Nat.pow_le_pow_right (by decide) (by omega)
      have e4 : x * 2 ^ z / 2 ^ (63 - E) < 2 ^ (E + 1) := Nat.div_lt_of_lt_mul (by rw [Nat.mul_comm (2 ^ (63 - E)), ← e2]; exact g2)
      exact Nat.lt_of_lt_of_le e4 e3
    rw [e63, esh, lN_i]
    refine ⟨_, _, hl, rfl, ?_⟩
    clear hl esh hd0 g1 g2 hn hx
    generalize x * 2 ^ z / 2 ^ (63 - E) = q at hq
    by_cases d : bI (R_neg t) = 0
    · rw [if_pos d, nI_toInt (by omega)]; omega
    · rw [if_neg d, fb_negI (by rw [nI_toInt (by omega)]; omega), nI_toInt (by omega)]; omega
  · rw [if_neg c]
    refine ⟨0, 0, ?_, ?_, by decide, by decide⟩
    · rw [M_scL_S, if_pos]
      exact fa_of_nle c
    · by_cases d : bI (R_neg t) = 0
      · rw [if_pos d]
      · rw [if_neg d]; rfl
theorem scaled_4 {cw td t ty : Int32} {f fy : Int64} (h : R_kind t f = 4) : R_scaled cw td t f ty fy = (t, f, td) := by
  unfold R_scaled
  rw [isOf_t h, if_neg bIt]
theorem scaled_n {cw td t ty : Int32} {f fy : Int64} (h : ¬ R_kind t f = 4) : R_scaled cw td t f ty fy = R_make cw td (R_neg t) f (R_unit t + R_cutOff ty fy) := by
  unfold R_scaled
  rw [isOf_f h, if_pos bIf]
  simp only [tup3_id]
