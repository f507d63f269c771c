/-! what is left of a division -/
theorem exp_rng {t : Int32} (h1 : 0 ≤ t.toInt) (h2 : t.toInt ≤ 65535) {f : Int64} (hf : ¬ f = 0) : -16445 ≤ (R_exp t f).toInt ∧ (R_exp t f).toInt ≤ 16384 := by
  obtain ⟨x, z, x0, hx, e, hz, hj, g1, g2, hn⟩ := frac hf
  obtain ⟨r1, r2⟩ := unit_rng h1 h2
  clear g1 g2 hx
  rw [exp_n hj, ex_toInt (by omega) (by omega) hz]
  omega
theorem left_4 {cw td t s : Int32} {f y : Int64} (h : R_kind s y = 4) : R_leftOver cw td t f s y = tup3 (R_make cw td (R_neg t) f (R_unit t)) (fun vt vf otd => (vt, vf, otd, 0, false)) := by
  unfold R_leftOver
  rw [isOf_t h, if_neg bIt]
theorem left_0 {cw td t s : Int32} {f y : Int64} (h : ¬ R_kind s y = 4) (hn : R_nought t f = true) : R_leftOver cw td t f s y = tup3 (R_make cw td (R_neg t) f (R_unit t)) (fun vt vf otd => (vt, vf, otd, 0, false)) := by
  unfold R_leftOver
  rw [isOf_f h, if_pos bIf, hn, if_neg bIt]
theorem left_s {cw td t s : Int32} {f y : Int64} (h : ¬ R_kind s y = 4) (hn : R_nought t f = false) (hc : ¬ 0 ≤ R_exp t f - R_exp s y) : R_leftOver cw td t f s y = tup3 (R_make cw td (R_neg t) f (R_unit t)) (fun vt vf otd => (vt, vf, otd, 0, false)) := by
  unfold R_leftOver
  rw [isOf_f h, if_pos bIf, hn, if_pos bIf, if_neg hc]
theorem left_d {cw td t s : Int32} {f y : Int64} (h : ¬ R_kind s y = 4) (hn : R_nought t f = false) (hc : 0 ≤ R_exp t f - R_exp s y) {L : Int64} {H Q : Int32} {P : Bool} (hP : (if (R_exp t f - R_exp s y) ≤ 63 then false else true) = P) (hH : (if bI P = 0 then (R_exp t f - R_exp s y) else (63 : Int32)) = H) (hd : R_divide (R_norm f) (R_norm y) H = (L, Q)) : R_leftOver cw td t f s y = tup3 (R_make cw td (R_neg t) L (R_exp t f - 63 - H)) (fun vt vf otd => (vt, vf, otd, Q, P)) := by
  unfold R_leftOver
  rw [isOf_f h, if_pos bIf, hn, if_pos bIf, if_pos hc, hP, hH, tup2_e hd]
theorem out8 {α1 α2 α3 α4 α5 α6 α7 α8 : Type} {a1 b1 : α1} {a2 b2 : α2} {a3 b3 : α3} {a4 b4 : α4} {a5 b5 : α5} {a6 b6 : α6} {a7 b7 : α7} {a8 b8 : α8} (h : (a1, a2, a3, a4, a5, a6, a7, a8) = (b1, b2, b3, b4, b5, b6, b7, b8)) : b1 = a1 ∧ b2 = a2 ∧ b3 = a3 ∧ b4 = a4 ∧ b5 = a5 ∧ b6 = a6 ∧ b7 = a7 ∧ b8 = a8 := by
  cases h; exact ⟨rfl, rfl, rfl, rfl, rfl, rfl, rfl, rfl⟩
theorem out89 {α1 α2 α3 α4 α5 α6 α7 α8 β : Type} {a1 b1 : α1} {a2 b2 : α2} {a3 b3 : α3} {a4 b4 : α4} {a5 b5 : α5} {a6 b6 : α6} {a7 b7 : α7} {a8 b8 : α8} {a9 b9 : β} (h : (a1, a2, a3, a4, a5, a6, a7, a8, a9) = (b1, b2, b3, b4, b5, b6, b7, b8, b9)) : b1 = a1 ∧ b2 = a2 ∧ b3 = a3 ∧ b4 = a4 ∧ b5 = a5 ∧ b6 = a6 ∧ b7 = a7 ∧ b8 = a8 := by
  cases h; exact ⟨rfl, rfl, rfl, rfl, rfl, rfl, rfl, rfl⟩
theorem inv_all {tf : Nat → Int32} {ff : Nat → Int64} {cw td : Int32} {an : Bool} {qb : Int32} {pa : Bool} {ct : Int32} {tg : Nat → Int32} {fg : Nat → Int64} {tE : Int32} {aE : Bool} {qE : Int32} {pE : Bool} (h : INV tf ff cw td an qb pa ct tg fg tE aE qE pE) (D : Int32) (A : Bool) (Q : Int32) (P : Bool) : INV tf ff cw D A Q P ct tg fg D A Q P := by
  obtain ⟨e1, e2, e3, e4, e5, hr, hc⟩ := h
  exact ⟨e1, rfl, rfl, rfl, rfl, hr, hc⟩
theorem rem_set {tf : Nat → Int32} {ff : Nat → Int64} {cw td : Int32} {an : Bool} {qb : Int32} {pa : Bool} {ct : Int32} {tg : Nat → Int32} {fg : Nat → Int64} {tE : Int32} {aE : Bool} {qE : Int32} {pE : Bool} (hI : INV tf ff cw td an qb pa ct tg fg tE aE qE pE) {β : Type} {rest rest' : β} {rc t D Q : Int32} {f : Int64} {A P : Bool} {v k : Int32} {u_tf : Nat → Int32} {u_ff : Nat → Int64} {u_td : Int32} {u_an : Bool} {u_qb : Int32} {u_pa : Bool} {b w_cd : Int32} {w_tf : Nat → Int32} {w_ff : Nat → Int64} {w_td : Int32} {w_an : Bool} {w_qb : Int32} {w_pa : Bool} (r1 : 0 ≤ t.toInt) (r2 : t.toInt ≤ 65535) (h1 : (D, (0 : Int32), upd tf rc.toNatClampNeg t, vp_updL ff rc.toNatClampNeg f, D, A, Q, P) = (v, k, u_tf, u_ff, u_td, u_an, u_qb, u_pa)) (h2 : (D, (0 : Int32), upd tg rc.toNatClampNeg t, vp_updL fg rc.toNatClampNeg f, D, A, Q, P, rest) = (b, w_cd, w_tf, w_ff, w_td, w_an, w_qb, w_pa, rest')) : w_cd = k ∧ (k = 0 → v = b) ∧ INV u_tf u_ff cw u_td u_an u_qb u_pa ct w_tf w_ff w_td w_an w_qb w_pa := by
  obtain ⟨a1, a2, a3, a4, a5, a6, a7, a8⟩ := out8 h1
  obtain ⟨b1, b2, b3, b4, b5, b6, b7, b8⟩ := out89 h2
  rw [a1, a2, a3, a4, a5, a6, a7, a8, b1, b2, b3, b4, b5, b6, b7, b8]
  exact ⟨rfl, fun _ => rfl, inv_all (inv_set hI _ r1 r2 D A) D A Q P⟩
theorem rem_same {tf : Nat → Int32} {ff : Nat → Int64} {cw td : Int32} {an : Bool} {qb : Int32} {pa : Bool} {ct : Int32} {tg : Nat → Int32} {fg : Nat → Int64} {tE : Int32} {aE : Bool} {qE : Int32} {pE : Bool} (hI : INV tf ff cw td an qb pa ct tg fg tE aE qE pE) {β : Type} {rest rest' : β} {v k : Int32} {u_tf : Nat → Int32} {u_ff : Nat → Int64} {u_td : Int32} {u_an : Bool} {u_qb : Int32} {u_pa : Bool} {b w_cd : Int32} {w_tf : Nat → Int32} {w_ff : Nat → Int64} {w_td : Int32} {w_an : Bool} {w_qb : Int32} {w_pa : Bool} (h1 : ((0 : Int32), (1 : Int32), tf, ff, td, an, qb, pa) = (v, k, u_tf, u_ff, u_td, u_an, u_qb, u_pa)) (h2 : ((0 : Int32), (1 : Int32), tg, fg, tE, aE, qE, pE, rest) = (b, w_cd, w_tf, w_ff, w_td, w_an, w_qb, w_pa, rest')) : w_cd = k ∧ (k = 0 → v = b) ∧ INV u_tf u_ff cw u_td u_an u_qb u_pa ct w_tf w_ff w_td w_an w_qb w_pa := by
  obtain ⟨a1, a2, a3, a4, a5, a6, a7, a8⟩ := out8 h1
  obtain ⟨b1, b2, b3, b4, b5, b6, b7, b8⟩ := out89 h2
  rw [a1, a2, a3, a4, a5, a6, a7, a8, b1, b2, b3, b4, b5, b6, b7, b8]
  exact ⟨rfl, fun _ => rfl, hI⟩
theorem rem_sub {tf : Nat → Int32} {ff : Nat → Int64} {cw td : Int32} {an : Bool} {qb : Int32} {pa : Bool} {ct : Int32} {tg : Nat → Int32} {fg : Nat → Int64} {tE : Int32} {aE : Bool} {qE : Int32} {pE : Bool} (hI : INV tf ff cw td an qb pa ct tg fg tE aE qE pE) {β : Type} {rest rest' : β} {rc D : Int32} {a : Bool} {tx ty : Int32} {fx fy : Int64} (hx1 : 0 ≤ tx.toInt) (hx2 : tx.toInt ≤ 65535) (hy1 : 0 ≤ ty.toInt) (hy2 : ty.toInt ≤ 65535) {aT : Int32} {aF : Int64} (hs : a = true → R_subst tx fx ty fy = (aT, aF)) {v k : Int32} {u_tf : Nat → Int32} {u_ff : Nat → Int64} {u_td : Int32} {u_an : Bool} {u_qb : Int32} {u_pa : Bool} {b w_cd : Int32} {w_tf : Nat → Int32} {w_ff : Nat → Int64} {w_td : Int32} {w_an : Bool} {w_qb : Int32} {w_pa : Bool} (h1 : (if bI a = 0 then (D, (0 : Int32), tf, ff, D, a, qb, pa) else tup2 (R_subst tx fx ty fy) (fun vt vf => tup2 (R_write tf ff rc vt vf) (fun otf off => (D, (0 : Int32), otf, off, D, a, qb, pa)))) = (v, k, u_tf, u_ff, u_td, u_an, u_qb, u_pa)) (h2 : tup2 (M_keep tg fg (if false = true then false else a) aT aF rc) (fun otf off => (D, (0 : Int32), otf, off, D, (if false = true then false else a), qE, pE, rest)) = (b, w_cd, w_tf, w_ff, w_td, w_an, w_qb, w_pa, rest')) : w_cd = k ∧ (k = 0 → v = b) ∧ INV u_tf u_ff cw u_td u_an u_qb u_pa ct w_tf w_ff w_td w_an w_qb w_pa := by
  have e : (if false = true then false else a) = a := if_neg (by decide)
  rw [e] at h2
  have eq4 := hI.2.2.2.1
  have eq5 := hI.2.2.2.2.1
  cases a
  · rw [if_pos bIf] at h1
    rw [tup2_e keep_f] at h2
    obtain ⟨a1, a2, a3, a4, a5, a6, a7, a8⟩ := out8 h1
    obtain ⟨b1, b2, b3, b4, b5, b6, b7, b8⟩ := out89 h2
    rw [a1, a2, a3, a4, a5, a6, a7, a8, b1, b2, b3, b4, b5, b6, b7, b8]
    exact ⟨rfl, fun _ => rfl, inv_tell hI _ _⟩
  · have hsub := hs rfl
    obtain ⟨r1, r2⟩ := subst_rng hx1 hx2 hy1 hy2 hsub
    rw [if_neg bIt, tup2_e hsub, tup2_e (write_e _ _ _ _ _)] at h1
    rw [tup2_e keep_t, eq4, eq5] at h2
    exact rem_set hI r1 r2 h1 h2
theorem s_remainder : S_remainder := by
  intro tf ff cw td an qb pa cd ct tg fg tE aE qE pE aT aF dg fi lo ra rb rc hinv v k u_tf u_ff u_td u_an u_qb u_pa b w_cd w_tf w_ff w_td w_an w_qb w_pa w_aT w_aF w_dg w_fi w_lo h1 h2
  have hI := hinv
  obtain ⟨e1, e2, e3, e4, e5, hr, hc1, hc2⟩ := hinv
  unfold R_remainder at h1
  unfold M_remainder at h2
  by_cases hn : R_need ra = true
  · rw [if_pos hn] at h1
    rw [if_pos (none_0 hn)] at h2
    by_cases hb : R_need rb = true
    · rw [if_pos hb] at h1
      rw [if_pos (none_0 hb)] at h2
      by_cases hw : R_need rc = true
      · obtain ⟨g1, g2, g3, g4⟩ := hr _ (need_lt hn)
        obtain ⟨j1, j2, j3, j4⟩ := hr _ (need_lt hb)
        rw [if_pos hw, tup2_e (read_e _ _), tup2_e (read_e _ _)] at h1
        rw [if_pos (none_0 hw), tup2_e begin_e, g1, g2, j1, j2, e1] at h2
        generalize tf ra.toNatClampNeg = t at h1 h2 g3 g4
        generalize ff ra.toNatClampNeg = f at h1 h2
        generalize tf rb.toNatClampNeg = s at h1 h2 j3 j4
        generalize ff rb.toNatClampNeg = y at h1 h2
        clear g1 g2 j1 j2
        have k4 := kindI g3 g4 f (k := 4) (K := 4) rfl (by decide)
        have k4y := kindI j3 j4 y (k := 4) (K := 4) rfl (by decide)
        have k2y := kindI j3 j4 y (k := 2) (K := 2) rfl (by decide)
        have hnn := need_nn hb
        obtain ⟨r1, r2⟩ := unit_rng g3 g4
        have hcan : (if M_kind t f = 4 then false else (if bI (M_nothing s y) = 0 then (if M_kind s y = 2 then false else true) else false)) = !(if bI (R_isOf t f 4) = 0 then (if bI (R_nought s y) = 0 then (if bI (R_isOf s y 2) = 0 then false else true) else true) else true) := by
          rw [nothing_eq j3 j4]
          by_cases c : R_kind t f = 4
          · rw [if_pos (k4.mpr c), isOf_t c, if_neg bIt]; rfl
          · rw [if_neg (fun q => c (k4.mp q)), isOf_f c, if_pos bIf]
            by_cases d : bI (R_nought s y) = 0
            · rw [if_pos d, if_pos d]
              by_cases e : R_kind s y = 2
              · rw [if_pos (k2y.mpr e), isOf_t e, if_neg bIt]; rfl
              · rw [if_neg (fun q => e (k2y.mp q)), isOf_f e, if_pos bIf]; rfl
            · rw [if_neg d, if_neg d]; rfl
        obtain ⟨g, d, a, aT', aF', hg1, hg2, hd, hs, ht⟩ := goes2 (fx := f) (fy := y) hc1 hc2 g3 g4 j3 j4 hnn aT aF (if bI (R_isOf t f 4) = 0 then (if bI (R_nought s y) = 0 then (if bI (R_isOf s y 2) = 0 then false else true) else true) else true) _ (fun _ _ => hcan)
        rw [tup3_e hg1] at h1
        rw [tup5_e hg2] at h2
        cases g
        · rw [if_pos bIf] at h1 h2
          exact rem_sub hI g3 g4 j3 j4 (hs rfl) h1 h2
        · obtain ⟨ha, hx5, hy5, him⟩ := ht rfl
          have hd6 : d < 64 := by omega
          rw [ha, if_neg bIt] at h1
          rw [if_neg bIt] at h2
          have hk4 : ¬ R_kind t f = 4 := by
            intro q
            rw [isOf_t q, if_neg bIt] at him
            exact absurd him (by decide)
          rw [isOf_f hk4, if_pos bIf] at him
          have hny : R_nought s y = false := by
            cases hq : R_nought s y
            · rfl
            · rw [hq, if_neg bIt] at him
              exact absurd him (by decide)
          unfold M_divide at h2
          rw [minus_neg g3 g4, unit_eq g3 g4, nothing_eq g3 g4] at h2
          by_cases cy : R_kind s y = 4
          · rw [left_4 cy] at h1
            rw [if_pos (k4y.mpr cy)] at h2
            obtain ⟨T, F, d', lo', m1, m2, m3, m4, m5⟩ := make_eq hc1 hc2 hd6 lo (R_neg t) f (un := R_unit t) (by omega) (by omega)
            rw [m1] at h1
            rw [m2] at h2
            exact rem_set hI m3 m4 h1 h2
          · rw [if_neg (fun q => cy (k4y.mp q))] at h2
            cases hno : R_nought t f
            · have hf : ¬ f = 0 := by
                intro q
                rw [nought_f hk4, decide_eq_true q] at hno
                exact absurd hno (by decide)
              have hyf : ¬ y = 0 := by
                intro q
                rw [nought_f cy, decide_eq_true q] at hny
                exact absurd hny (by decide)
              obtain ⟨p1, p2⟩ := exp_rng g3 g4 hf
              obtain ⟨q1, q2⟩ := exp_rng j3 j4 hyf
              rw [hno, if_pos bIf, tup2_e (apart_n g3 g4 hf), tup2_e (apart_n j3 j4 hyf)] at h2
              have hdf : (R_exp t f - R_exp s y).toInt = (R_exp t f).toInt - (R_exp s y).toInt := subK rfl rfl (by omega) (by omega)
              by_cases c0 : 0 ≤ R_exp t f - R_exp s y
              · rw [if_pos c0] at h2
                have z0 : (0 : Int32).toInt = 0 := rfl
                have z63 : (63 : Int32).toInt = 63 := rfl
                obtain ⟨S, P, hS, hP, hH⟩ : ∃ (S : Nat) (P : Bool), S ≤ 63 ∧ (if (R_exp t f - R_exp s y) ≤ 63 then false else true) = P ∧ (if bI P = 0 then (R_exp t f - R_exp s y) else (63 : Int32)) = nI S := by
                  have c0' := c0
                  rw [ile, z0] at c0'
                  by_cases c : R_exp t f - R_exp s y ≤ 63
                  · have c' := c
                    rw [ile, z63] at c'
                    refine ⟨(R_exp t f - R_exp s y).toInt.toNat, false, by omega, by rw [if_pos c], ?_⟩
                    rw [if_pos bIf]
                    exact i32_eq (by rw [nI_toInt (by omega)]; omega)
                  · exact ⟨63, true, by omega, by rw [if_neg c], by rw [if_neg bIt]; rfl⟩
                obtain ⟨x, z, x0, hx, ex, hz, hj, g1, g2, hnx⟩ := frac hf
                obtain ⟨x', z', x0', hx', ex', hz', hj', g1', g2', hny'⟩ := frac hyf
                have hdv := divide_n g1 g2 g1' g2' (S := S) (by omega)
                rw [← hnx, ← hny'] at hdv
                have hdl := dvL_all g2 (by omega : 0 < x' * 2 ^ z') g2' (S := S) (by omega)
                rw [← hnx, ← hny'] at hdl
                rw [left_d cy hno c0 hP hH hdv] at h1
                rw [hP, hH, tup3_e hdl] at h2
                have hun : R_exp s y + (R_exp t f - R_exp s y) - nI S - 63 = R_exp t f - 63 - nI S := by
                  generalize R_exp t f = A
                  generalize R_exp s y = B
                  have e1 : B + (A - B) = A := by
                    rw [Int32.add_comm, Int32.sub_add_cancel]
                  rw [e1, Int32.sub_eq_add_neg, Int32.sub_eq_add_neg, Int32.sub_eq_add_neg, Int32.sub_eq_add_neg]
                  ac_rfl
                rw [hun] at h2
                have h63 : (R_exp t f - 63 - nI S).toInt = (R_exp t f).toInt - 63 - S := by
                  generalize hA : (R_exp t f).toInt = A at p1 p2
                  clear g1 g2 g1' g2' hx hx' hdv hdl
                  exact subK (subK hA rfl (by omega) (by omega)) (nI_toInt (by omega)) (by omega) (by omega)
                obtain ⟨T, F, d', lo', m1, m2, m3, m4, m5⟩ := make_eq hc1 hc2 hd6 lo (R_neg t) (lN (x * 2 ^ z * 2 ^ S % (x' * 2 ^ z'))) (un := R_exp t f - 63 - nI S) (by clear g1 g2 g1' g2' hx hx' hdv hdl; omega) (by clear g1 g2 g1' g2' hx hx' hdv hdl; omega)
                rw [m1] at h1
                rw [m2] at h2
                exact rem_set hI m3 m4 h1 h2
              · rw [left_s cy hno c0] at h1
                rw [if_neg c0] at h2
                obtain ⟨T, F, d', lo', m1, m2, m3, m4, m5⟩ := make_eq hc1 hc2 hd6 lo (R_neg t) f (un := R_unit t) (by omega) (by omega)
                rw [m1] at h1
                rw [m2] at h2
                exact rem_set hI m3 m4 h1 h2
            · rw [left_0 cy hno] at h1
              rw [hno, if_neg bIt] at h2
              obtain ⟨T, F, d', lo', m1, m2, m3, m4, m5⟩ := make_eq hc1 hc2 hd6 lo (R_neg t) f (un := R_unit t) (by omega) (by omega)
              rw [m1] at h1
              rw [m2] at h2
              exact rem_set hI m3 m4 h1 h2
      · rw [if_neg hw] at h1
        rw [if_neg (none_1 hw)] at h2
        exact rem_same hI h1 h2
    · rw [if_neg hb] at h1
      rw [if_neg (none_1 hb)] at h2
      exact rem_same hI h1 h2
  · rw [if_neg hn] at h1
    rw [if_neg (none_1 hn)] at h2
    exact rem_same hI h1 h2
