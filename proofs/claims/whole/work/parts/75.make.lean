theorem make_under {cw : Int32} (hc1 : 0 ≤ cw.toInt) (hc2 : cw.toInt ≤ 65535) {d : Nat} (hd : d < 64) (ng : Bool) {x z w : Nat} {un ex : Int32} (hw4 : w < 4) (hwR : R_rounding cw = nI w) (hwM : M_way cw = nI w) (h0 : 0 < x) (hx : x < 2 ^ 64) (hz : z < 64) (hp : 0 < x * 2 ^ z) (h2 : x * 2 ^ z < 2 ^ 64) (hu1 : -40000 ≤ un.toInt) (hu2 : un.toInt ≤ 40000) (hex : ex.toInt = un.toInt + 63 - z) (hlt : ex.toInt < -16382) (c4 : ¬ bI (R_masked cw 16) = 0) :
    ∃ (t : Int32) (f : Int64) (d' : Nat) (lo' : Bool), R_makeUnder cw (nI d) ng ex (lN (x * 2 ^ z)) = (t, f, nI d') ∧ (if ((-16445) - un) ≤ 0 then (tup2 (M_shL ((-((-16445) - un).toInt).toNat + 1) (lN x) ((-16445) - un)) (fun w1 w2 =>
          tup3 ((M_answer ((if bI ng = 0 then (0 : Int32) else (32768 : Int32)) + (bI (if w1 < 0 then true else false))) w1)) (fun oan_48 oaT_49 oaF_50 =>
            ((nI d), oan_48, oaT_49, oaF_50, false))))
      else (tup2 ((M_rounded cw (lN x) ((-16445) - un) ng)) (fun v_53 olo_54 =>
          tup2 (M_shL ((-((-16445) - un).toInt).toNat + 1) v_53 ((-16445) - un)) (fun w1 w2 =>
            if bI olo_54 = 0 then (tup3 ((M_answer ((if bI ng = 0 then (0 : Int32) else (32768 : Int32)) + (bI (if w1 < 0 then true else false))) w1)) (fun oan_59 oaT_60 oaF_61 =>
                ((nI d), oan_59, oaT_60, oaF_61, olo_54)))
            else (tup2 ((M_tell cw (nI d) 16)) (fun v_63 otd_64 =>
                tup2 ((M_tell cw otd_64 32)) (fun v_66 otd_67 =>
                  tup3 ((M_answer ((if bI ng = 0 then (0 : Int32) else (32768 : Int32)) + (bI (if w1 < 0 then true else false))) w1)) (fun oan_70 oaT_71 oaF_72 =>
                    (otd_67, oan_70, oaT_71, oaF_72, olo_54))))))))) = (nI d', true, t, f, lo') ∧ 0 ≤ t.toInt ∧ t.toInt ≤ 65535 ∧ d' < 64 := by
  have hd16 := tell_lt d hd 4 (by decide)
  have ht16 := tell_n hc1 hc2 hd (j := 4) (by decide) (b := 16) rfl
  unfold R_makeUnder
  rw [if_neg c4]
  rcases un_cases hz hu1 hu2 hex hlt with ⟨m, c5, hm, hmz, es⟩ | ⟨s, c5, hs1, hs3, eu, es⟩
  · rw [if_pos c5, es]
    have ex2 : x * 2 ^ z = x * 2 ^ m * 2 ^ (z - m) := by rw [Nat.mul_assoc, ← Nat.pow_add]; refine congrArg _ (congrArg _ ?_); omega
    have hr := R_rounded_n hwR hw4 (x := x * 2 ^ z) (s := z - m) ng hp h2 (by omega) (by omega)
    have hcut := isCut_n (x := x * 2 ^ z) (s := z - m) hp h2 (by omega) (by omega)
    have q1 := Q_rd_z w ng (x * 2 ^ m) 0 (z - m)
    have q2 := Q_cut_z (x * 2 ^ m) 0 (z - m)
    rw [Nat.zero_add, ← ex2, (Q_0 w ng _).2] at q1
    rw [Nat.zero_add, ← ex2, (Q_0 w ng _).1] at q2
    rw [q1] at hr
    rw [q2] at hcut
    rw [hcut, hr, if_pos bIf]
    have hs := shL_n m ((-(-16445 - un).toInt).toNat + 1) x (-16445 - un) hm (by rw [hm]; omega)
    rw [tup2_e hs]
    obtain ⟨t1, t2, t3⟩ := tops_b ng (if lN (x * 2 ^ m) < 0 then true else false)
    refine ⟨_, _, d, false, rfl, ?_, t2, t3, hd⟩
    rw [t1]; rfl
  · rw [if_neg c5, es, eu]
    have hr := R_rounded_n hwR hw4 (x := x * 2 ^ z) (s := s + z) ng hp h2 (by omega) (by omega)
    have hcut := isCut_n (x := x * 2 ^ z) (s := s + z) hp h2 (by omega) (by omega)
    rw [Q_rd_z] at hr
    rw [Q_cut_z] at hcut
    have hmr := M_rounded_n hwM hw4 (x := x) (s := s) ng h0 hx hs1 (by omega)
    rw [hcut, hr, tup2_e hmr]
    have hsh : M_shL ((-(nI s).toInt).toNat + 1) (lN (Q_rd w ng x s)) (nI s) = (lN (Q_rd w ng x s), nI s) := by
      rw [M_shL_S, if_pos (nI_pos' (by omega))]
    rw [tup2_e hsh]
    obtain ⟨t1, t2, t3⟩ := tops_b ng (if lN (Q_rd w ng x s) < 0 then true else false)
    have hd48 := tell_lt (d ||| 2 ^ 4) hd16 5 (by decide)
    have ht32 := tell_n hc1 hc2 hd16 (j := 5) (by decide) (b := 32) rfl
    cases Q_cut x s
    · rw [if_pos bIf, if_pos bIf]
      refine ⟨_, _, d, false, rfl, ?_, t2, t3, hd⟩
      rw [t1]; rfl
    · rw [if_neg bIt, if_neg bIt, tup2_e ht16, tup2_e ht32]
      have eo : nI d ||| (48 : Int32) = nI (d ||| 2 ^ 4 ||| 2 ^ 5) := by
        have : nI d ||| (48 : Int32) = nI (d ||| 48) := fa_or d 48
        rw [this, ← or_48]
      refine ⟨_, lN (Q_rd w ng x s), d ||| 2 ^ 4 ||| 2 ^ 5, true, ?_, ?_, t2, t3, hd48⟩
      · rw [← eo]
      · rw [t1]; rfl
theorem make_eq {cw : Int32} (hc1 : 0 ≤ cw.toInt) (hc2 : cw.toInt ≤ 65535) {d : Nat} (hd : d < 64) (lo ng : Bool) (fr : Int64) {un : Int32} (hu1 : -40000 ≤ un.toInt) (hu2 : un.toInt ≤ 40000) :
    ∃ (t : Int32) (f : Int64) (d' : Nat) (lo' : Bool), R_make cw (nI d) ng fr un = (t, f, nI d') ∧ M_make cw (nI d) lo ng fr un = (nI d', true, t, f, lo') ∧ 0 ≤ t.toInt ∧ t.toInt ≤ 65535 ∧ d' < 64 := by
  obtain ⟨w, hw4, hwR, hwM⟩ := way_w hc1 hc2
  by_cases hf : fr = 0
  · refine ⟨R_signOf ng, 0, d, lo, by unfold R_make; rw [if_pos hf]; rfl, by unfold M_make; rw [if_pos hf]; rfl, ?_, ?_, hd⟩
    · cases ng <;> decide
    · cases ng <;> decide
  · obtain ⟨x, z, h0, hx, e, hz, hj, h1, h2, hn⟩ := frac hf
    have hm := apL_n z 64 x (un + 63) (by omega) h0 h1 h2
    rw [← mkL_apL] at hm
    subst e
    have x2 := ex_toInt hu1 hu2 hz
    rw [R_make_nz hf hz hj]
    unfold M_make
    rw [if_neg hf, tup2_e hm]
    have hp : 0 < x * 2 ^ z := Nat.mul_pos h0 (Nat.two_pow_pos z)
    clear hm hn h1 hj
    generalize un + 63 - nI z = ex at x2
    have k382 : (-16382 : Int32).toInt = -16382 := rfl
    have k383 : (16383 : Int32).toInt = 16383 := rfl
    have k384 : (16384 : Int32).toInt = 16384 := rfl
    have b1 : ex.toInt ≤ 40950 := by rw [x2]; clear h0 hx h2 hp; omega
    have b2 : -40950 ≤ ex.toInt := by rw [x2]; clear h0 hx h2 hp; omega
    by_cases c1 : (-16382) ≤ ex
    · rw [if_pos c1, if_pos c1]
      rw [ile, k382] at c1
      by_cases c2 : ex ≤ 16383
      · have c3 : ¬ (16384 : Int32) ≤ ex := by
          rw [ile, k383] at c2
          rw [ile, k384]
          clear h0 hx h2 hp
          omega
        rw [if_pos c2, if_neg c3]
        rw [ile, k383] at c2
        obtain ⟨t1, t2, t3⟩ := mk_normal ng c1 c2
        refine ⟨_, _, d, lo, rfl, ?_, t2, t3, hd⟩
        rw [t1]
        rfl
      · have c3 : (16384 : Int32) ≤ ex := by
          rw [ile, k383] at c2
          rw [ile, k384]
          clear h0 hx h2 hp
          omega
        rw [if_neg c2, if_pos c3]
        rw [ile, k383] at c2
        have c2' : 16383 < ex.toInt := Int.not_le.mp c2
        have hk8 := masked_eq hc1 hc2 (w := 8) 3 rfl (by decide)
        have hd8 := tell_lt d hd 3 (by decide)
        have ht8 := tell_n hc1 hc2 hd (j := 3) (by decide) (b := 8) rfl
        rw [hk8]
        by_cases c4 : bI (R_masked cw 8) = 0
        · rw [if_pos c4, tup2_e ht8]
          unfold R_makeOver
          rw [if_pos c4]
          obtain ⟨t1, t2, t3⟩ := mk_over ng c2' b1
          have eo : nI d ||| (8 : Int32) = nI (d ||| 2 ^ 3) := fa_or d 8
          refine ⟨_, lN (x * 2 ^ z), d ||| 2 ^ 3, lo, ?_, ?_, t2, t3, hd8⟩
          · rw [← eo]; rfl
          · rw [t1]; rfl
        · have ht32 := tell_n hc1 hc2 hd8 (j := 5) (by decide) (b := 32) rfl
          have hd40 := tell_lt (d ||| 2 ^ 3) hd8 5 (by decide)
          rw [over_t hwR ng ex _ c4, if_neg c4, tup2_e ht8, tup2_e ht32, hwM]
          obtain ⟨t, f, o1, o2, o3, o4, o5⟩ := over_w hw4 ng
          refine ⟨t, f, _, lo, o1 _, ?_, o4, o5, hd40⟩
          rw [o2, o3]
          rfl
    · rw [if_neg c1, if_neg c1]
      rw [ile, k382] at c1
      have c1' : ex.toInt < -16382 := Int.not_le.mp c1
      have hk16 := masked_eq hc1 hc2 (w := 16) 4 rfl (by decide)
      rw [hk16]
      by_cases c4 : bI (R_masked cw 16) = 0
      · have hd16 := tell_lt d hd 4 (by decide)
        have ht16 := tell_n hc1 hc2 hd (j := 4) (by decide) (b := 16) rfl
        rw [if_pos c4, tup2_e ht16]
        unfold R_makeUnder
        rw [if_pos c4]
        obtain ⟨t1, t2, t3⟩ := mk_under ng b2 c1'
        have eo : nI d ||| (16 : Int32) = nI (d ||| 2 ^ 4) := fa_or d 16
        refine ⟨_, lN (x * 2 ^ z), d ||| 2 ^ 4, lo, ?_, ?_, t2, t3, hd16⟩
        · rw [← eo]; rfl
        · rw [t1]; rfl
      · rw [if_neg c4]
        exact make_under hc1 hc2 hd ng hw4 hwR hwM h0 hx hz hp h2 hu1 hu2 x2 c1' c4
