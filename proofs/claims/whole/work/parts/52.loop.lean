def SIMS : Prop := S_control ∧ S_set ∧ S_part ∧ S_turn ∧ S_constant ∧ S_whole ∧ S_scale ∧ S_extract ∧ S_remainder ∧ S_compare ∧ S_test ∧ S_examine ∧ S_told
theorem idx_in0 {i : Int32} {j L : Nat} (hi : i.toInt = 5 * (j : Int)) (hj : 5 * j + 5 ≤ L) (hL : L ≤ 2560) : vp_in i L := by
  rw [vp_in_iff]
  omega
theorem len5 {L : Nat} (hL : L ≤ 2560) : (Int32.ofNat L - 5).toInt = (L : Int) - 5 := by
  have h5 : (5 : Int32).toInt = 5 := rfl
  have h1 : (Int32.ofNat L).toInt = (L : Int) := Int32.toInt_ofNat_of_lt (by omega)
  rw [fb_subI (by omega) (by omega)]
  omega
set_option maxHeartbeats 4000000 in
set_option maxRecDepth 100000 in
theorem law_loop {p : Program} {l : Launch} {e : Env} {s : State} {m : MethodId} {below : List Frame} {meth : Method} {c : Code} {b L : Nat} {xs : Nat → Int32} {D : va_G} {ad : Nat → Nat} (hs : SIMS) (C0 : LC p l s m meth c b L xs ad) {h q1 q2 g r1 r2 o : Nat} {cA cB cC dA dB : ClassId} (hK : va_K D vwCl (tW cA cB cC dA dB) s) : ∀ (n j : Nat), n + j = 513 → ∀ (i : Int32) (tf : Nat → Int32) (ff : Nat → Int64) (cw : Int32) (td : Int32) (an : Bool) (qb : Int32) (pa : Bool) (cd : Int32) (ct : Int32) (tg : Nat → Int32) (fg : Nat → Int64) (tE : Int32) (aE : Bool) (qE : Int32) (pE : Bool) (aT : Int32) (aF : Int64) (dg : Int64) (fi : Int32) (lo : Bool) (fo : Nat → Int64) (H : Heap) (locs : List Loc) (ls : Array Slot), i.toInt = 5 * (j : Int) → 5 * j ≤ 2560 → INV tf ff cw td an qb pa ct tg fg tE aE qE pE → va_P D vwCl (wW h q1 q2 cA cB tf ff cw td an qb pa o cC fo g r1 r2 dA dB cd ct tg fg tE aE qE pE aT aF dg fi lo) H → va_D (fun q => s.heap.size ≤ q) (wW h q1 q2 cA cB tf ff cw td an qb pa o cC fo g r1 r2 dA dB cd ct tg fg tE aE qE pE aT aF dg fi lo) → va_S (fun q => s.heap.size ≤ q) s.heap H locs → lv_has ls 7 [(4, .int i), (3, .ref o), (2, .ref g), (1, .ref h), (0, .ref b)] → W p l e room_1 s m #[Value.ref b] below meth c H locs (7 + 6 * j) (53 + 24 * j) (lw_Z below #[Value.ref b] s) (F0 m 23 ls []) := by
  obtain ⟨hx, hb, hr, hml, hown, hts, hX, hbl, hlocks, hE, hDW, hl9, hL⟩ := id C0
  have hbA : ¬ (fun q : Nat => s.heap.size ≤ q) b := Nat.not_le.mpr hbl
  obtain ⟨hs0, hs1, hs2, hs3, hs4, hs5, hs6, hs7, hs8, hs9, hs10, hs11, hs12⟩ := hs
  intro n
  induction n with
  | zero => intro j hn i tf ff cw td an qb pa cd ct tg fg tE aE qE pE aT aF dg fi lo fo H locs ls hi hj5 hinv hP hD hS hl; omega
  | succ n ih =>
    intro j hn i tf ff cw td an qb pa cd ct tg fg tE aE qE pE aT aF dg fi lo fo H locs ls hi hj5 hinv hP hD hS hl
    have K : 5 * j + 5 ≤ L → ∀ (tf : Nat → Int32) (ff : Nat → Int64) (cw : Int32) (td : Int32) (an : Bool) (qb : Int32) (pa : Bool) (cd : Int32) (ct : Int32) (tg : Nat → Int32) (fg : Nat → Int64) (tE : Int32) (aE : Bool) (qE : Int32) (pE : Bool) (aT : Int32) (aF : Int64) (dg : Int64) (fi : Int32) (lo : Bool) (fo : Nat → Int64) (H : Heap) (locs : List Loc) (ls : Array Slot), INV tf ff cw td an qb pa ct tg fg tE aE qE pE → va_P D vwCl (wW h q1 q2 cA cB tf ff cw td an qb pa o cC fo g r1 r2 dA dB cd ct tg fg tE aE qE pE aT aF dg fi lo) H → va_D (fun q => s.heap.size ≤ q) (wW h q1 q2 cA cB tf ff cw td an qb pa o cC fo g r1 r2 dA dB cd ct tg fg tE aE qE pE aT aF dg fi lo) → va_S (fun q => s.heap.size ≤ q) s.heap H locs → lv_has ls 7 [(4, .int i), (3, .ref o), (2, .ref g), (1, .ref h), (0, .ref b)] → W p l e room_1 s m #[Value.ref b] below meth c H locs (7 + 6 * j + 6) (53 + 24 * j + 24) (lw_Z below #[Value.ref b] s) (F0 m 936 ls []) := by
      intro hjL tf ff cw td an qb pa cd ct tg fg tE aE qE pE aT aF dg fi lo fo H locs ls hinv hP hD hS hl
      refine lv_iinc (v := (i + 5)) (lv' := [(4, .int (i + 5)), (3, .ref o), (2, .ref g), (1, .ref h), (0, .ref b)]) hx hb dL_law_936 hl (k := 0) rfl rfl (by decide) rfl (fun ls hl => ?_)
      refine lv_goto (tgt := 23) hx hb dL_law_939 (by decide) ?_
      refine W.widen (k := 7 + 6 * (j + 1)) (n := 53 + 24 * (j + 1)) (by omega) (by omega) ?_
      have h5 : (5 : Int32).toInt = 5 := rfl
      exact ih (j + 1) (by omega) (i + 5) _ _ _ _ _ _ _ _ _ _ _ _ _ _ _ _ _ _ _ _ _ _ _ _ (by rw [fb_addI (by omega) (by omega)]; omega) (by omega) hinv hP hD hS hl
    refine lv_iload hx hb dL_law_23 (lv_at hl 0 rfl) ?_
    refine lv_aload_n hx hb dL_law_25 rfl (lv_at hl 4 rfl) ?_
    refine va_slen hx hb hX hbl hbA hS dL_law_26 ?_
    refine lv_iconst (v := 5) hx hb dL_law_27 (by decide) ?_
    refine lv_isub hx hb dL_law_28 ?_
    refine lv_icmp_gt (tgt := 942) hx hb dL_law_29 (by decide) (fun c_1 => ?_) (fun c_1 => ?_)
    · refine lv_iconst (v := 1) hx hb dL_law_942 (by decide) ?_
      refine va_forget (fun q hq => hS.2.2 q hq) ?_
      refine W.widen (k := 710647) (n := 6964162) (by omega) (by omega) ?_
      exact lw_ret hx hb hr hlocks dL_law_943
    · have hjL : 5 * j + 5 ≤ L := by
        rw [ilt, len5 hL] at c_1
        omega
      refine lv_aload_n hx hb dL_law_32 rfl (lv_at hl 4 rfl) ?_
      refine lv_iload hx hb dL_law_33 (lv_at hl 0 rfl) ?_
      refine va_sld hx hb hX hbl hbA hS (idx_in0 hi hjL hL) dL_law_35 ?_
      refine lv_bipush (v := 15) hx hb dL_law_36 (by decide) ?_
      refine lv_iand hx hb dL_law_38 ?_
      generalize xs i.toNatClampNeg &&& 15 = op
      refine (dite (op = 0) (fun c_x => ?_) (fun d_0 => ?_))
      · refine lv_tableIn (tgt := 104) hx hb dL_law_39 (by rw [c_x]; decide) (by rw [c_x]; decide) (by rw [c_x]; rfl) (by decide) ?_
        exact law_control hs0 C0 hi hjL (by omega) (by omega) tf ff cw td an qb pa cd ct tg fg tE aE qE pE aT aF dg fi lo fo hinv hK hP hD hS hl (K hjL)
      refine (dite (op = 1) (fun c_x => ?_) (fun d_1 => ?_))
      · refine lv_tableIn (tgt := 140) hx hb dL_law_39 (by rw [c_x]; decide) (by rw [c_x]; decide) (by rw [c_x]; rfl) (by decide) ?_
        exact law_set hs1 C0 hi hjL (by omega) (by omega) tf ff cw td an qb pa cd ct tg fg tE aE qE pE aT aF dg fi lo fo hinv hK hP hD hS hl (K hjL)
      refine (dite (op = 2) (fun c_x => ?_) (fun d_2 => ?_))
      · refine lv_tableIn (tgt := 212) hx hb dL_law_39 (by rw [c_x]; decide) (by rw [c_x]; decide) (by rw [c_x]; rfl) (by decide) ?_
        exact law_part hs2 C0 hi hjL (by omega) (by omega) tf ff cw td an qb pa cd ct tg fg tE aE qE pE aT aF dg fi lo fo hinv hK hP hD hS hl (K hjL)
      refine (dite (op = 3) (fun c_x => ?_) (fun d_3 => ?_))
      · refine lv_tableIn (tgt := 280) hx hb dL_law_39 (by rw [c_x]; decide) (by rw [c_x]; decide) (by rw [c_x]; rfl) (by decide) ?_
        exact law_turn hs3 C0 hi hjL (by omega) (by omega) tf ff cw td an qb pa cd ct tg fg tE aE qE pE aT aF dg fi lo fo hinv hK hP hD hS hl (K hjL)
      refine (dite (op = 4) (fun c_x => ?_) (fun d_4 => ?_))
      · refine lv_tableIn (tgt := 344) hx hb dL_law_39 (by rw [c_x]; decide) (by rw [c_x]; decide) (by rw [c_x]; rfl) (by decide) ?_
        exact law_constant hs4 C0 hi hjL (by omega) (by omega) tf ff cw td an qb pa cd ct tg fg tE aE qE pE aT aF dg fi lo fo hinv hK hP hD hS hl (K hjL)
      refine (dite (op = 5) (fun c_x => ?_) (fun d_5 => ?_))
      · refine lv_tableIn (tgt := 392) hx hb dL_law_39 (by rw [c_x]; decide) (by rw [c_x]; decide) (by rw [c_x]; rfl) (by decide) ?_
        exact law_whole hs5 C0 hi hjL (by omega) (by omega) tf ff cw td an qb pa cd ct tg fg tE aE qE pE aT aF dg fi lo fo hinv hK hP hD hS hl (K hjL)
      refine (dite (op = 6) (fun c_x => ?_) (fun d_6 => ?_))
      · refine lv_tableIn (tgt := 460) hx hb dL_law_39 (by rw [c_x]; decide) (by rw [c_x]; decide) (by rw [c_x]; rfl) (by decide) ?_
        exact law_scale hs6 C0 hi hjL (by omega) (by omega) tf ff cw td an qb pa cd ct tg fg tE aE qE pE aT aF dg fi lo fo hinv hK hP hD hS hl (K hjL)
      refine (dite (op = 7) (fun c_x => ?_) (fun d_7 => ?_))
      · refine lv_tableIn (tgt := 540) hx hb dL_law_39 (by rw [c_x]; decide) (by rw [c_x]; decide) (by rw [c_x]; rfl) (by decide) ?_
        exact law_extract hs7 C0 hi hjL (by omega) (by omega) tf ff cw td an qb pa cd ct tg fg tE aE qE pE aT aF dg fi lo fo hinv hK hP hD hS hl (K hjL)
      refine (dite (op = 8) (fun c_x => ?_) (fun d_8 => ?_))
      · refine lv_tableIn (tgt := 620) hx hb dL_law_39 (by rw [c_x]; decide) (by rw [c_x]; decide) (by rw [c_x]; rfl) (by decide) ?_
        exact law_remainder hs8 C0 hi hjL (by omega) (by omega) tf ff cw td an qb pa cd ct tg fg tE aE qE pE aT aF dg fi lo fo hinv hK hP hD hS hl (K hjL)
      refine (dite (op = 9) (fun c_x => ?_) (fun d_9 => ?_))
      · refine lv_tableIn (tgt := 700) hx hb dL_law_39 (by rw [c_x]; decide) (by rw [c_x]; decide) (by rw [c_x]; rfl) (by decide) ?_
        exact law_compare hs9 C0 hi hjL (by omega) (by omega) tf ff cw td an qb pa cd ct tg fg tE aE qE pE aT aF dg fi lo fo hinv hK hP hD hS hl (K hjL)
      refine (dite (op = 10) (fun c_x => ?_) (fun d_10 => ?_))
      · refine lv_tableIn (tgt := 768) hx hb dL_law_39 (by rw [c_x]; decide) (by rw [c_x]; decide) (by rw [c_x]; rfl) (by decide) ?_
        exact law_test hs10 C0 hi hjL (by omega) (by omega) tf ff cw td an qb pa cd ct tg fg tE aE qE pE aT aF dg fi lo fo hinv hK hP hD hS hl (K hjL)
      refine (dite (op = 11) (fun c_x => ?_) (fun d_11 => ?_))
      · refine lv_tableIn (tgt := 824) hx hb dL_law_39 (by rw [c_x]; decide) (by rw [c_x]; decide) (by rw [c_x]; rfl) (by decide) ?_
        exact law_examine hs11 C0 hi hjL (by omega) (by omega) tf ff cw td an qb pa cd ct tg fg tE aE qE pE aT aF dg fi lo fo hinv hK hP hD hS hl (K hjL)
      refine (dite (op = 12) (fun c_x => ?_) (fun d_12 => ?_))
      · refine lv_tableIn (tgt := 880) hx hb dL_law_39 (by rw [c_x]; decide) (by rw [c_x]; decide) (by rw [c_x]; rfl) (by decide) ?_
        exact law_told hs12 C0 hi hjL (by omega) (by omega) tf ff cw td an qb pa cd ct tg fg tE aE qE pE aT aF dg fi lo fo hinv hK hP hD hS hl (K hjL)
      refine lv_tableOut (tgt := 936) hx hb dL_law_39 (sw_out_0_12 d_0 d_1 d_2 d_3 d_4 d_5 d_6 d_7 d_8 d_9 d_10 d_11 d_12) (by decide) ?_
      refine W.widen (k := 7 + 6 * j + 6) (n := 53 + 24 * j + 24) (by omega) (by omega) ?_
      exact K hjL _ _ _ _ _ _ _ _ _ _ _ _ _ _ _ _ _ _ _ _ _ _ _ _ hinv hP hD hS hl
