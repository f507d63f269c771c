/-! comparing -/
def Q_ord (t : Int32) (f : Int64) (s : Int32) (y : Int64) : Int32 := if R_side t f = R_side s y then R_side t f * R_sizes t f s y else (if R_side s y ≤ R_side t f then (1 : Int32) else (-1 : Int32))
theorem side_eq {t : Int32} (h1 : 0 ≤ t.toInt) (h2 : t.toInt ≤ 65535) (f : Int64) : (if bI (M_nothing t f) = 0 then (if bI (M_minus t) = 0 then (1 : Int32) else (-1 : Int32)) else (0 : Int32)) = R_side t f := by
  rw [nothing_eq h1 h2, minus_neg h1 h2]
  rfl
theorem isInf {t : Int32} (h1 : 0 ≤ t.toInt) (h2 : t.toInt ≤ 65535) (f : Int64) : (if M_kind t f = 4 then true else false) = R_isOf t f 4 := by
  have k4 := kindI h1 h2 f (k := 4) (K := 4) rfl (by decide)
  by_cases c : R_kind t f = 4
  · rw [if_pos (k4.mpr c), isOf_t c]
  · rw [if_neg (fun q => c (k4.mp q)), isOf_f c]
theorem side_0 {t : Int32} {f : Int64} (hk : ¬ R_kind t f = 4) (h : ¬ R_side t f = 0) : ¬ f = 0 := by
  intro c
  refine h ?_
  unfold R_side
  rw [nought_f hk, decide_eq_true c, if_neg bIt]
theorem less_cmp (i j : Int64) : M_less i j = decide (¬ 0 ≤ J_cmpU i j) := by
  obtain ⟨a, ha, rfl⟩ := wb_of i
  obtain ⟨b, hb, rfl⟩ := wb_of j
  rw [less_n ha hb]
  refine decide_eq_decide.mpr ?_
  rw [cmpU_ge ha hb]
  omega
theorem mul_m1 (x : Int32) : x * (-1) = -x := by rw [Int32.mul_neg, Int32.mul_one]
theorem order2 {cw t s : Int32} {f y : Int64} (g3 : 0 ≤ t.toInt) (g4 : t.toInt ≤ 65535) (j3 : 0 ≤ s.toInt) (j4 : s.toInt ≤ 65535) (hc1 : 0 ≤ cw.toInt) (hc2 : cw.toInt ≤ 65535) (dg : Int64) (fi : Int32) (hv : R_masked cw 4096 = true ∨ (¬ R_kind t f = 4 ∧ ¬ R_kind s y = 4)) : ∃ dg' fi', M_order cw dg fi t f false s y = (Q_ord t f s y, dg', fi') := by
  have hm := masked_eq hc1 hc2 (w := 4096) 12 rfl (by decide)
  unfold M_order Q_ord
  rw [if_pos bIf, side_eq g3 g4, side_eq j3 j4, isInf g3 g4, isInf j3 j4, hm]
  unfold R_sizes
  by_cases cx : R_kind t f = 4
  · rw [isOf_t cx, if_neg bIt]
    have hmt : R_masked cw 4096 = true := hv.elim id (fun q => absurd cx q.1)
    by_cases cy : R_kind s y = 4
    · rw [isOf_t cy, if_neg bIt, hmt, if_neg bIt]
      by_cases e : R_side t f = R_side s y
      · refine ⟨dg, fi, ?_⟩
        rw [if_pos e, if_pos e, if_pos rfl, if_neg bIt, Int32.mul_zero]
        by_cases z : R_side t f = 0
        · rw [if_pos z]
        · rw [if_neg z]
      · refine ⟨dg, fi, ?_⟩
        rw [if_neg e, if_neg e]
    · rw [isOf_f cy, if_pos bIf]
      by_cases e : R_side t f = R_side s y
      · refine ⟨dg, fi, ?_⟩
        rw [if_pos e, if_pos e, if_neg (by decide : ¬ bI true = bI false), if_neg bIt, Int32.mul_one]
        by_cases z : R_side t f = 0
        · rw [if_pos z, z]
        · rw [if_neg z]
      · refine ⟨dg, fi, ?_⟩
        rw [if_neg e, if_neg e]
  · rw [isOf_f cx, if_pos bIf]
    by_cases e : R_side t f = R_side s y
    · rw [if_pos e, if_pos e]
      by_cases cy : R_kind s y = 4
      · rw [isOf_t cy, if_neg bIt, if_neg (by decide : ¬ bI false = bI true), if_pos bIf, mul_m1]
        refine ⟨dg, fi, ?_⟩
        by_cases z : R_side t f = 0
        · rw [if_pos z, z]; rfl
        · rw [if_neg z]
      · rw [isOf_f cy, if_pos bIf, if_pos rfl, if_pos bIf]
        by_cases z : R_side t f = 0
        · rw [if_pos z, z, Int32.zero_mul]
          exact ⟨dg, fi, rfl⟩
        · rw [if_neg z]
          have hfx := side_0 cx z
          have hfy := side_0 cy (by rw [← e]; exact z)
          rw [tup2_e (apart_n g3 g4 hfx), tup2_e (apart_n j3 j4 hfy)]
          refine ⟨R_norm y, R_exp s y, ?_⟩
          by_cases ce : R_exp t f = R_exp s y
          · rw [if_pos ce, if_pos ce]
            by_cases cn : R_norm f = R_norm y
            · rw [if_pos cn, if_pos cn, Int32.mul_zero]
            · rw [if_neg cn, if_neg cn, less_cmp]
              by_cases cc : 0 ≤ J_cmpU (R_norm f) (R_norm y)
              · rw [if_pos cc, decide_eq_false (fun q => q cc), if_pos bIf, Int32.mul_one]
              · rw [if_neg cc, decide_eq_true cc, if_neg bIt, mul_m1]
          · rw [if_neg ce, if_neg ce]
            by_cases cc : R_exp s y ≤ R_exp t f
            · rw [if_pos cc, if_pos cc, Int32.mul_one]
            · rw [if_neg cc, if_neg cc, mul_m1]
    · rw [if_neg e, if_neg e]
      exact ⟨dg, fi, rfl⟩
theorem order2_0 {cw t s : Int32} {f y : Int64} (g3 : 0 ≤ t.toInt) (g4 : t.toInt ≤ 65535) (j3 : 0 ≤ s.toInt) (j4 : s.toInt ≤ 65535) (hc1 : 0 ≤ cw.toInt) (hc2 : cw.toInt ≤ 65535) (dg : Int64) (fi : Int32) (hm : R_masked cw 4096 = false) (cx : R_kind t f = 4) (cy : R_kind s y = 4) : M_order cw dg fi t f false s y = (0, dg, fi) := by
  have hm2 := masked_eq hc1 hc2 (w := 4096) 12 rfl (by decide)
  unfold M_order
  rw [if_pos bIf, isInf g3 g4, isInf j3 j4, hm2, isOf_t cx, isOf_t cy, if_neg bIt, if_neg bIt, hm, if_pos bIf]
theorem order1 {cw t : Int32} {f : Int64} (g3 : 0 ≤ t.toInt) (g4 : t.toInt ≤ 65535) (dg : Int64) (fi : Int32) (s : Int32) (y : Int64) : M_order cw dg fi t f true s y = (Q_ord t f 0 0, dg, fi) := by
  have h0 : R_side 0 0 = 0 := rfl
  unfold M_order Q_ord
  rw [if_neg bIt, side_eq g3 g4, isInf g3 g4, h0]
  by_cases z : R_side t f = 0
  · rw [if_pos z, if_pos z, z, Int32.zero_mul]
    by_cases c : bI (R_isOf t f 4) = 0
    · rw [if_pos c]
    · rw [if_neg c]
  · rw [if_neg z, if_neg z]
    by_cases c : bI (R_isOf t f 4) = 0
    · rw [if_pos c]
    · rw [if_neg c]
theorem R_order_e {cw t s : Int32} {f y : Int64} {im : Bool} {td : Int32} {g an : Bool} (him : im = (if R_masked cw 4096 = true then false else (if bI (R_isOf t f 4) = bI (R_isOf s y 4) then false else true))) (hg : R_goesOn cw t f s y im false = (g, td, an)) : R_order cw t f s y = (if g = true then (if R_masked cw 4096 = true then Q_ord t f s y else if R_isOf t f 4 = true then 0 else Q_ord t f s y) else (if bI an = 0 then (3 : Int32) else (2 : Int32)), td, an) := by
  have hvw : (if (cw &&& 4096) = 0 then true else false) = !(R_masked cw 4096) := by
    unfold R_masked
    by_cases c : (cw &&& 4096) = 0
    · rw [if_pos c, if_pos c]; rfl
    · rw [if_neg c, if_neg c]; rfl
  have him2 : im = (if bI (!(R_masked cw 4096)) = 0 then false else (if bI (R_isOf t f 4) = bI (R_isOf s y 4) then false else true)) := by
    rw [him]
    cases R_masked cw 4096 <;> rfl
  unfold R_order
  rw [hvw, ← him2, tup3_e hg]
  unfold Q_ord
  cases g
  · rfl
  · rw [if_neg bIt, if_pos rfl]
    cases R_masked cw 4096
    · rw [if_neg (by decide : ¬ bI (!false) = 0), if_neg (by decide : ¬ false = true)]
      cases R_isOf t f 4
      · rw [if_pos bIf, if_neg (by decide : ¬ false = true)]
        by_cases e : R_side t f = R_side s y
        · rw [if_pos e, if_pos e]
        · rw [if_neg e, if_neg e]
      · rw [if_neg bIt, if_pos rfl]
    · rw [if_pos (by decide : bI (!true) = 0), if_pos rfl]
      by_cases e : R_side t f = R_side s y
      · rw [if_pos e, if_pos e]
      · rw [if_neg e, if_neg e]
theorem out4 {α1 α2 α3 α4 : Type} {a1 b1 : α1} {a2 b2 : α2} {a3 b3 : α3} {a4 b4 : α4} (h : (a1, a2, a3, a4) = (b1, b2, b3, b4)) : b1 = a1 ∧ b2 = a2 ∧ b3 = a3 ∧ b4 = a4 := by
  cases h; exact ⟨rfl, rfl, rfl, rfl⟩
theorem out5 {α1 α2 α3 α4 β : Type} {a1 b1 : α1} {a2 b2 : α2} {a3 b3 : α3} {a4 b4 : α4} {a5 b5 : β} (h : (a1, a2, a3, a4, a5) = (b1, b2, b3, b4, b5)) : b1 = a1 ∧ b2 = a2 ∧ b3 = a3 ∧ b4 = a4 := by
  cases h; exact ⟨rfl, rfl, rfl, rfl⟩
theorem fin_cmp {tf : Nat → Int32} {ff : Nat → Int64} {cw td : Int32} {an : Bool} {qb : Int32} {pa : Bool} {ct : Int32} {tg : Nat → Int32} {fg : Nat → Int64} {tE : Int32} {aE : Bool} {qE : Int32} {pE : Bool} (hI : INV tf ff cw td an qb pa ct tg fg tE aE qE pE) {β : Type} {rest rest' : β} {V D : Int32} {A : Bool} {v k : Int32} {u_td : Int32} {u_an : Bool} {b w_cd : Int32} {w_td : Int32} {w_an : Bool} (h1 : (V, (0 : Int32), D, A) = (v, k, u_td, u_an)) (h2 : (V, (0 : Int32), D, A, rest) = (b, w_cd, w_td, w_an, rest')) : w_cd = k ∧ (k = 0 → v = b) ∧ INV tf ff cw u_td u_an qb pa ct tg fg w_td w_an qE pE := by
  obtain ⟨a1, a2, a3, a4⟩ := out4 h1
  obtain ⟨b1, b2, b3, b4⟩ := out5 h2
  rw [a1, a2, a3, a4, b1, b2, b3, b4]
  exact ⟨rfl, fun _ => rfl, inv_tell hI _ _⟩
theorem fin_none {tf : Nat → Int32} {ff : Nat → Int64} {cw td : Int32} {an : Bool} {qb : Int32} {pa : Bool} {ct : Int32} {tg : Nat → Int32} {fg : Nat → Int64} {tE : Int32} {aE : Bool} {qE : Int32} {pE : Bool} (hI : INV tf ff cw td an qb pa ct tg fg tE aE qE pE) {β : Type} {rest rest' : β} {v k : Int32} {u_td : Int32} {u_an : Bool} {b w_cd : Int32} {w_td : Int32} {w_an : Bool} (h1 : ((0 : Int32), (1 : Int32), td, an) = (v, k, u_td, u_an)) (h2 : ((0 : Int32), (1 : Int32), tE, aE, rest) = (b, w_cd, w_td, w_an, rest')) : w_cd = k ∧ (k = 0 → v = b) ∧ INV tf ff cw u_td u_an qb pa ct tg fg w_td w_an qE pE := by
  obtain ⟨a1, a2, a3, a4⟩ := out4 h1
  obtain ⟨b1, b2, b3, b4⟩ := out5 h2
  rw [a1, a2, a3, a4, b1, b2, b3, b4]
  exact ⟨rfl, fun _ => rfl, hI⟩
theorem s_compare : S_compare := by
  intro tf ff cw td an qb pa cd ct tg fg tE aE qE pE aT aF dg fi lo ra rb hinv v k u_td u_an b w_cd w_td w_an w_aT w_aF w_dg w_fi h1 h2
  have hI := hinv
  obtain ⟨e1, e2, e3, e4, e5, hr, hc1, hc2⟩ := hinv
  unfold R_compare at h1
  unfold M_compare at h2
  by_cases hn : R_need ra = true
  · rw [if_pos hn] at h1
    rw [if_pos (none_0 hn)] at h2
    by_cases hb : R_need rb = true
    · obtain ⟨g1, g2, g3, g4⟩ := hr _ (need_lt hn)
      obtain ⟨j1, j2, j3, j4⟩ := hr _ (need_lt hb)
      rw [if_pos hb, tup2_e (read_e _ _), tup2_e (read_e _ _)] at h1
      rw [if_pos (none_0 hb), g1, g2, j1, j2, e1] at h2
      generalize tf ra.toNatClampNeg = t at h1 h2 g3 g4
      generalize ff ra.toNatClampNeg = f at h1 h2
      generalize tf rb.toNatClampNeg = s at h1 h2 j3 j4
      generalize ff rb.toNatClampNeg = y at h1 h2
      clear g1 g2 j1 j2
      have hm := masked_eq hc1 hc2 (w := 4096) 12 rfl (by decide)
      have hnn := need_nn hb
      have hcan : (if bI (M_masked cw 4096) = 0 then (if bI (if M_kind t f = 4 then true else false) = bI (if M_kind s y = 4 then true else false) then true else false) else true) = !(if R_masked cw 4096 = true then false else (if bI (R_isOf t f 4) = bI (R_isOf s y 4) then false else true)) := by
        rw [hm, isInf g3 g4, isInf j3 j4]
        cases R_masked cw 4096 <;> cases R_isOf t f 4 <;> cases R_isOf s y 4 <;> rfl
      obtain ⟨g, d, a, aT', aF', hg1, hg2, hd, hs, ht⟩ := goes2 (fx := f) (fy := y) hc1 hc2 g3 g4 j3 j4 hnn aT aF (if R_masked cw 4096 = true then false else (if bI (R_isOf t f 4) = bI (R_isOf s y 4) then false else true)) _ (fun _ _ => hcan)
      rw [tup3_e (R_order_e rfl hg1)] at h1
      unfold M_compared at h2
      rw [tup2_e begin_e, if_pos bIf, tup5_e hg2] at h2
      cases g
      · rw [if_neg (by decide : ¬ false = true)] at h1
        rw [if_pos bIf, if_neg (by decide : ¬ false = true)] at h2
        exact fin_cmp hI h1 h2
      · obtain ⟨ha, hx5, hy5, him⟩ := ht rfl
        rw [ha, if_pos rfl] at h1
        rw [if_neg bIt] at h2
        by_cases cm : R_masked cw 4096 = true
        · obtain ⟨dg', fi', ho⟩ := order2 g3 g4 j3 j4 hc1 hc2 dg fi (f := f) (y := y) (Or.inl cm)
          rw [if_pos cm] at h1
          rw [tup3_e ho] at h2
          exact fin_cmp hI h1 h2
        · have cmf : R_masked cw 4096 = false := by
            cases hq : R_masked cw 4096
            · rfl
            · exact absurd hq cm
          rw [if_neg cm] at him h1
          by_cases cx : R_kind t f = 4
          · by_cases cy : R_kind s y = 4
            · rw [isOf_t cx, if_pos rfl] at h1
              rw [tup3_e (order2_0 g3 g4 j3 j4 hc1 hc2 dg fi cmf cx cy)] at h2
              exact fin_cmp hI h1 h2
            · rw [isOf_t cx, isOf_f cy] at him
              exact absurd him (by decide)
          · by_cases cy : R_kind s y = 4
            · rw [isOf_f cx, isOf_t cy] at him
              exact absurd him (by decide)
            · obtain ⟨dg', fi', ho⟩ := order2 g3 g4 j3 j4 hc1 hc2 dg fi (f := f) (y := y) (Or.inr ⟨cx, cy⟩)
              rw [isOf_f cx, if_neg (by decide : ¬ false = true)] at h1
              rw [tup3_e ho] at h2
              exact fin_cmp hI h1 h2
    · rw [if_neg hb] at h1
      rw [if_neg (none_1 hb)] at h2
      exact fin_none hI h1 h2
  · rw [if_neg hn] at h1
    rw [if_neg (none_1 hn)] at h2
    exact fin_none hI h1 h2
theorem s_test : S_test := by
  intro tf ff cw td an qb pa cd ct tg fg tE aE qE pE aT aF dg fi lo ra hinv v k u_td u_an b w_cd w_td w_an w_aT w_aF w_dg w_fi h1 h2
  have hI := hinv
  obtain ⟨e1, e2, e3, e4, e5, hr, hc1, hc2⟩ := hinv
  unfold R_test at h1
  unfold M_test at h2
  by_cases hn : R_need ra = true
  · obtain ⟨g1, g2, g3, g4⟩ := hr _ (need_lt hn)
    have hz : R_zero false = (0, 0) := rfl
    rw [if_pos hn, tup2_e (read_e _ _), tup2_e hz] at h1
    rw [if_pos (none_0 hn), g1, g2, e1] at h2
    generalize tf ra.toNatClampNeg = t at h1 h2 g3 g4
    generalize ff ra.toNatClampNeg = f at h1 h2
    clear g1 g2
    have hm := masked_eq hc1 hc2 (w := 4096) 12 rfl (by decide)
    have k00 : R_kind 0 0 = 0 := rfl
    have i04 : R_isOf 0 0 4 = false := rfl
    have hcan : (if bI (M_masked cw 4096) = 0 then (if bI (if M_kind t f = 4 then true else false) = 0 then true else false) else true) = !(if R_masked cw 4096 = true then false else (if bI (R_isOf t f 4) = bI (R_isOf 0 0 4) then false else true)) := by
      rw [hm, isInf g3 g4, i04]
      cases R_masked cw 4096 <;> cases R_isOf t f 4 <;> rfl
    obtain ⟨g, d, a, aT', aF', hg1, hg2, hd, hs, ht⟩ := goes1 (fx := f) (ty := 0) (fy := 0) hc1 hc2 g3 g4 (fun q => by rw [k00] at q; exact absurd q (by decide)) (fun q => by rw [k00] at q; exact absurd q (by decide)) aT aF (if R_masked cw 4096 = true then false else (if bI (R_isOf t f 4) = bI (R_isOf 0 0 4) then false else true)) _ (tg (-1 : Int32).toNatClampNeg) (fg (-1 : Int32).toNatClampNeg) (fun _ => hcan)
    rw [tup3_e (R_order_e rfl hg1)] at h1
    unfold M_compared at h2
    rw [tup2_e begin_e, if_neg bIt, tup5_e hg2] at h2
    cases g
    · rw [if_neg (by decide : ¬ false = true)] at h1
      rw [if_pos bIf, if_neg (by decide : ¬ false = true)] at h2
      exact fin_cmp hI h1 h2
    · obtain ⟨ha, hx5, him, _, _⟩ := ht rfl
      rw [ha, if_pos rfl] at h1
      rw [if_neg bIt, tup3_e (order1 g3 g4 dg fi _ _)] at h2
      by_cases cm : R_masked cw 4096 = true
      · rw [if_pos cm] at h1
        exact fin_cmp hI h1 h2
      · rw [if_neg cm] at him h1
        by_cases cx : R_kind t f = 4
        · rw [isOf_t cx, i04] at him
          exact absurd him (by decide)
        · rw [isOf_f cx, if_neg (by decide : ¬ false = true)] at h1
          exact fin_cmp hI h1 h2
  · rw [if_neg hn] at h1
    rw [if_neg (none_1 hn)] at h2
    exact fin_none hI h1 h2
