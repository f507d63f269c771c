set_option maxHeartbeats 4000000 in
set_option maxRecDepth 100000 in
theorem law_control {p : Program} {l : Launch} {e : Env} {s : State} {m : MethodId} {below : List Frame} {meth : Method} {c : Code} {b L : Nat} {xs : Nat → Int32} {Q : State → Prop} {D : va_G} {ad : Nat → Nat} (hs : S_control) (C0 : LC p l s m meth c b L xs ad) {j : Nat} {i : Int32} (hi : i.toInt = 5 * (j : Int)) (hj : 5 * j + 5 ≤ L) {cells slots : Nat} (hc6 : cells + 6 ≤ 710647) (hs24 : slots + 24 ≤ 6964162) {h q1 q2 g r1 r2 o : Nat} {cA cB cC dA dB : ClassId} (tf : Nat → Int32) (ff : Nat → Int64) (cw : Int32) (td : Int32) (an : Bool) (qb : Int32) (pa : Bool) (cd : Int32) (ct : Int32) (tg : Nat → Int32) (fg : Nat → Int64) (tE : Int32) (aE : Bool) (qE : Int32) (pE : Bool) (aT : Int32) (aF : Int64) (dg : Int64) (fi : Int32) (lo : Bool) (fo : Nat → Int64) (hinv : INV tf ff cw td an qb pa ct tg fg tE aE qE pE) {H : Heap} {locs : List Loc} (hK : va_K D vwCl (tW cA cB cC dA dB) s) (hP : va_P D vwCl (wW h q1 q2 cA cB tf ff cw td an qb pa o cC fo g r1 r2 dA dB cd ct tg fg tE aE qE pE aT aF dg fi lo) H) (hD : va_D (fun q => s.heap.size ≤ q) (wW h q1 q2 cA cB tf ff cw td an qb pa o cC fo g r1 r2 dA dB cd ct tg fg tE aE qE pE aT aF dg fi lo)) (hS : va_S (fun q => s.heap.size ≤ q) s.heap H locs) {ls : Array Slot} (hl : lv_has ls 7 [(4, .int i), (3, .ref o), (2, .ref g), (1, .ref h), (0, .ref b)]) (K : ∀ (tf : Nat → Int32) (ff : Nat → Int64) (cw : Int32) (td : Int32) (an : Bool) (qb : Int32) (pa : Bool) (cd : Int32) (ct : Int32) (tg : Nat → Int32) (fg : Nat → Int64) (tE : Int32) (aE : Bool) (qE : Int32) (pE : Bool) (aT : Int32) (aF : Int64) (dg : Int64) (fi : Int32) (lo : Bool) (fo : Nat → Int64) (H : Heap) (locs : List Loc) (ls : Array Slot), INV tf ff cw td an qb pa ct tg fg tE aE qE pE → va_P D vwCl (wW h q1 q2 cA cB tf ff cw td an qb pa o cC fo g r1 r2 dA dB cd ct tg fg tE aE qE pE aT aF dg fi lo) H → va_D (fun q => s.heap.size ≤ q) (wW h q1 q2 cA cB tf ff cw td an qb pa o cC fo g r1 r2 dA dB cd ct tg fg tE aE qE pE aT aF dg fi lo) → va_S (fun q => s.heap.size ≤ q) s.heap H locs → lv_has ls 7 [(4, .int i), (3, .ref o), (2, .ref g), (1, .ref h), (0, .ref b)] → W p l e room_1 s m #[Value.ref b] below meth c H locs (cells + 6) (slots + 24) Q (F0 m 936 ls [])) : W p l e room_1 s m #[Value.ref b] below meth c H locs cells slots Q (F0 m 104 ls []) := by
  obtain ⟨hx, hb, hr, hml, hown, hts, hX, hbl, hlocks, hE, hDW, hl9, hL⟩ := C0
  have hA : ∀ q : Nat, s.heap.size ≤ q → (fun q : Nat => s.heap.size ≤ q) q := fun _ h => h
  have hbA : ¬ (fun q : Nat => s.heap.size ≤ q) b := Nat.not_le.mpr hbl
  refine lv_aload_n hx hb dL_law_104 rfl (lv_at hl 3 rfl) ?_
  refine lv_aload_n hx hb dL_law_105 rfl (lv_at hl 4 rfl) ?_
  refine lv_iload hx hb dL_law_106 (lv_at hl 0 rfl) ?_
  refine lv_iconst (v := 1) hx hb dL_law_108 (by decide) ?_
  refine lv_iadd hx hb dL_law_109 ?_
  refine va_sld hx hb hX hbl hbA hS (idx_in hi hj hL (by decide)) dL_law_110 ?_
  have hKc : va_K D vwCl (tRS cA cB) s := hK.sub [0, 1] rfl
  have hPc : va_P D vwCl (cRS h q1 q2 cA cB tf ff cw td an qb pa) H := hP.sub [0, 1, 2] rfl
  have hDc : va_D (fun q => s.heap.size ≤ q) (cRS h q1 q2 cA cB tf ff cw td an qb pa) := hD.sub [0, 1, 2] (by decide) rfl
  have hFc := va_free (wc := cRS h q1 q2 cA cB tf ff cw td an qb pa) hD hS hA [0, 1, 2] rfl
  refine va_calli (vx_runSW (As := [.ref h, .int (xs (i + 1).toNatClampNeg)]) (rest := []) ⟨hx, hb, hml, hown, hts⟩ (c_L_control l hl9 D ad h q1 q2 cA cB tf ff cw td an qb pa (xs (i + 1).toNatClampNeg) H.size) (vx_cwSW 2 hts gL_law_L_control rfl rfl rfl kS_L_control ⟨Nat.le_of_ble_eq_true rfl, Nat.le_of_ble_eq_true rfl⟩) ⟨TXB.blind MRB.blind, TXB.pre (MRB.pre hKc hPc hDc vP_nil ap_nil hE hS hFc) hDW⟩ rfl rfl hl.1 rfl (lv_room (Nat.le_of_ble_eq_true rfl)) dL_law_111 ⟨rmC (by omega), rmS (by omega)⟩) hS (fun q _ h9 => hFc q h9) hFc (fun k9 u9 t9 H1 locs1 ht hvm hw hB hz1 hk1 hS => ?_)
  obtain rfl := hw
  obtain ⟨o_cw, hq, hP1, hD1⟩ := hB
  rw [ht] at hP1
  obtain ⟨hP, hD⟩ := va_join (wr := cOM o cC fo g r1 r2 dA dB cd ct tg fg tE aE qE pE aT aF dg fi lo) (w1 := cRS h q1 q2 cA cB tf ff o_cw td an qb pa) hP hD [0, 1, 2] [3, 4, 5, 6] rfl rfl (by decide) (by decide) hk1 hFc hP1 hD1
  have hP : va_P D vwCl (wW h q1 q2 cA cB tf ff o_cw td an qb pa o cC fo g r1 r2 dA dB cd ct tg fg tE aE qE pE aT aF dg fi lo) H1 := hP.sub [4, 5, 6, 0, 1, 2, 3] rfl
  have hD : va_D (fun q => s.heap.size ≤ q) (wW h q1 q2 cA cB tf ff o_cw td an qb pa o cC fo g r1 r2 dA dB cd ct tg fg tE aE qE pE aT aF dg fi lo) := hD.sub [4, 5, 6, 0, 1, 2, 3] (by decide) rfl
  refine lv_istore (lv' := [(5, .int k9), (4, .int i), (3, .ref o), (2, .ref g), (1, .ref h), (0, .ref b)]) hx hb dL_law_114 hl (by decide) rfl (fun ls hl => ?_)
  refine lv_aload_n hx hb dL_law_116 rfl (lv_at hl 3 rfl) ?_
  refine lv_aload_n hx hb dL_law_117 rfl (lv_at hl 5 rfl) ?_
  refine lv_iload hx hb dL_law_118 (lv_at hl 1 rfl) ?_
  refine lv_iconst (v := 1) hx hb dL_law_120 (by decide) ?_
  refine lv_iadd hx hb dL_law_121 ?_
  refine va_sld hx hb hX hbl hbA hS (idx_in hi hj hL (by decide)) dL_law_122 ?_
  have hKm : va_K D vwCl (tRS dA dB) s := hK.sub [3, 4] rfl
  have hPm : va_P D vwCl (cMd g r1 r2 dA dB cd ct tg fg tE aE qE pE aT aF dg fi lo) H1 := hP.sub [4, 5, 6] rfl
  have hDm : va_D (fun q => s.heap.size ≤ q) (cMd g r1 r2 dA dB cd ct tg fg tE aE qE pE aT aF dg fi lo) := hD.sub [4, 5, 6] (by decide) rfl
  have hFm := va_free (wc := cMd g r1 r2 dA dB cd ct tg fg tE aE qE pE aT aF dg fi lo) hD hS hA [4, 5, 6] rfl
  refine va_callv (va_runV (As := [.int (xs (i + 1).toNatClampNeg)]) (rest := []) ⟨hx, hb, hml, hown, hts⟩ (c_X3_control l D g r1 r2 dA dB cd ct tg fg tE aE qE pE aT aF dg fi lo (xs (i + 1).toNatClampNeg) H1.size) (cwV 1 hts gL_law_X3_control rfl rfl rfl kV_X3_control ⟨Nat.le_of_ble_eq_true rfl, Nat.le_of_ble_eq_true rfl⟩) ⟨MMB.blind, va_recv hKm hPm (ci := 2) (q0 := 0) rfl rfl, MMB.pre hKm hPm hDm⟩ rfl rfl hl.1 rfl (lv_room (Nat.le_of_ble_eq_true rfl)) dL_law_123 ⟨rmC (by omega), rmS (by omega)⟩) hS (fun q _ h9 => hFm q h9) hFm (fun u9 t9 H2 locs2 ht hvm hw hB hz1 hk1 hS => ?_)
  obtain ⟨m_cd, m_ct, hm, hP1, hD1⟩ := hB
  rw [ht] at hP1
  obtain ⟨hP, hD⟩ := va_join (wr := cL h q1 q2 cA cB tf ff o_cw td an qb pa o cC fo) (w1 := cMd g r1 r2 dA dB m_cd m_ct tg fg tE aE qE pE aT aF dg fi lo) hP hD [4, 5, 6] [0, 1, 2, 3] rfl rfl (by decide) (by decide) hk1 hFm hP1 hD1
  have hP : va_P D vwCl (wW h q1 q2 cA cB tf ff o_cw td an qb pa o cC fo g r1 r2 dA dB m_cd m_ct tg fg tE aE qE pE aT aF dg fi lo) H2 := hP
  have hD : va_D (fun q => s.heap.size ≤ q) (wW h q1 q2 cA cB tf ff o_cw td an qb pa o cC fo g r1 r2 dA dB m_cd m_ct tg fg tE aE qE pE aT aF dg fi lo) := hD
  obtain ⟨hk9, hinv⟩ := hs tf ff cw td an qb pa cd ct tg fg tE aE qE pE aT aF dg fi lo (xs (i + 1).toNatClampNeg) hinv _ _ _ _ hq hm
  refine lv_aload_n hx hb dL_law_126 rfl (lv_at hl 3 rfl) ?_
  have hPm : va_P D vwCl (cMd g r1 r2 dA dB m_cd m_ct tg fg tE aE qE pE aT aF dg fi lo) H2 := hP.sub [4, 5, 6] rfl
  refine vp_callSi (va_cr (va_runV (As := []) (rest := []) ⟨hx, hb, hml, hown, hts⟩ (c_X3_thrown l D g r1 r2 dA dB m_cd m_ct tg fg tE aE qE pE aT aF dg fi lo) (cwV 0 hts gL_law_X3_thrown rfl rfl rfl kV_X3_thrown ⟨Nat.le_of_ble_eq_true rfl, Nat.le_of_ble_eq_true rfl⟩) ⟨PB.blind, va_recv hKm hPm (ci := 2) (q0 := 0) rfl rfl, PB.pre hKm hPm⟩ rfl rfl hl.1 rfl (lv_room (Nat.le_of_ble_eq_true rfl)) dL_law_127 ⟨rmC (by omega), rmS (by omega)⟩)) (fun r9 e9 => ?_)
  rw [e9]
  refine lv_iload hx hb dL_law_130 (lv_at hl 0 rfl) ?_
  refine lv_icmp_eq (tgt := 137) hx hb dL_law_132 (by decide) (fun c_2 => ?_) (fun c_2 => absurd hk9 c_2)
  refine lv_goto (tgt := 936) hx hb dL_law_137 (by decide) ?_
  refine W.widen (k := cells + 6) (n := slots + 24) (by omega) (by omega) ?_
  exact K _ _ _ _ _ _ _ _ _ _ _ _ _ _ _ _ _ _ _ _ _ _ _ _ hinv hP hD hS (lv_sub hl [1, 2, 3, 4, 5] rfl)
set_option maxHeartbeats 4000000 in
set_option maxRecDepth 100000 in
theorem law_set {p : Program} {l : Launch} {e : Env} {s : State} {m : MethodId} {below : List Frame} {meth : Method} {c : Code} {b L : Nat} {xs : Nat → Int32} {Q : State → Prop} {D : va_G} {ad : Nat → Nat} (hs : S_set) (C0 : LC p l s m meth c b L xs ad) {j : Nat} {i : Int32} (hi : i.toInt = 5 * (j : Int)) (hj : 5 * j + 5 ≤ L) {cells slots : Nat} (hc6 : cells + 6 ≤ 710647) (hs24 : slots + 24 ≤ 6964162) {h q1 q2 g r1 r2 o : Nat} {cA cB cC dA dB : ClassId} (tf : Nat → Int32) (ff : Nat → Int64) (cw : Int32) (td : Int32) (an : Bool) (qb : Int32) (pa : Bool) (cd : Int32) (ct : Int32) (tg : Nat → Int32) (fg : Nat → Int64) (tE : Int32) (aE : Bool) (qE : Int32) (pE : Bool) (aT : Int32) (aF : Int64) (dg : Int64) (fi : Int32) (lo : Bool) (fo : Nat → Int64) (hinv : INV tf ff cw td an qb pa ct tg fg tE aE qE pE) {H : Heap} {locs : List Loc} (hK : va_K D vwCl (tW cA cB cC dA dB) s) (hP : va_P D vwCl (wW h q1 q2 cA cB tf ff cw td an qb pa o cC fo g r1 r2 dA dB cd ct tg fg tE aE qE pE aT aF dg fi lo) H) (hD : va_D (fun q => s.heap.size ≤ q) (wW h q1 q2 cA cB tf ff cw td an qb pa o cC fo g r1 r2 dA dB cd ct tg fg tE aE qE pE aT aF dg fi lo)) (hS : va_S (fun q => s.heap.size ≤ q) s.heap H locs) {ls : Array Slot} (hl : lv_has ls 7 [(4, .int i), (3, .ref o), (2, .ref g), (1, .ref h), (0, .ref b)]) (K : ∀ (tf : Nat → Int32) (ff : Nat → Int64) (cw : Int32) (td : Int32) (an : Bool) (qb : Int32) (pa : Bool) (cd : Int32) (ct : Int32) (tg : Nat → Int32) (fg : Nat → Int64) (tE : Int32) (aE : Bool) (qE : Int32) (pE : Bool) (aT : Int32) (aF : Int64) (dg : Int64) (fi : Int32) (lo : Bool) (fo : Nat → Int64) (H : Heap) (locs : List Loc) (ls : Array Slot), INV tf ff cw td an qb pa ct tg fg tE aE qE pE → va_P D vwCl (wW h q1 q2 cA cB tf ff cw td an qb pa o cC fo g r1 r2 dA dB cd ct tg fg tE aE qE pE aT aF dg fi lo) H → va_D (fun q => s.heap.size ≤ q) (wW h q1 q2 cA cB tf ff cw td an qb pa o cC fo g r1 r2 dA dB cd ct tg fg tE aE qE pE aT aF dg fi lo) → va_S (fun q => s.heap.size ≤ q) s.heap H locs → lv_has ls 7 [(4, .int i), (3, .ref o), (2, .ref g), (1, .ref h), (0, .ref b)] → W p l e room_1 s m #[Value.ref b] below meth c H locs (cells + 6) (slots + 24) Q (F0 m 936 ls [])) : W p l e room_1 s m #[Value.ref b] below meth c H locs cells slots Q (F0 m 140 ls []) := by
  obtain ⟨hx, hb, hr, hml, hown, hts, hX, hbl, hlocks, hE, hDW, hl9, hL⟩ := C0
  have hA : ∀ q : Nat, s.heap.size ≤ q → (fun q : Nat => s.heap.size ≤ q) q := fun _ h => h
  have hbA : ¬ (fun q : Nat => s.heap.size ≤ q) b := Nat.not_le.mpr hbl
  refine lv_aload_n hx hb dL_law_140 rfl (lv_at hl 3 rfl) ?_
  refine lv_aload_n hx hb dL_law_141 rfl (lv_at hl 4 rfl) ?_
  refine lv_iload hx hb dL_law_142 (lv_at hl 0 rfl) ?_
  refine lv_iconst (v := 1) hx hb dL_law_144 (by decide) ?_
  refine lv_iadd hx hb dL_law_145 ?_
  refine va_sld hx hb hX hbl hbA hS (idx_in hi hj hL (by decide)) dL_law_146 ?_
  refine lv_aload_n hx hb dL_law_147 rfl (lv_at hl 4 rfl) ?_
  refine lv_iload hx hb dL_law_148 (lv_at hl 0 rfl) ?_
  refine lv_iconst (v := 2) hx hb dL_law_150 (by decide) ?_
  refine lv_iadd hx hb dL_law_151 ?_
  refine va_sld hx hb hX hbl hbA hS (idx_in hi hj hL (by decide)) dL_law_152 ?_
  refine lv_aload_n hx hb dL_law_153 rfl (lv_at hl 4 rfl) ?_
  refine lv_iload hx hb dL_law_154 (lv_at hl 0 rfl) ?_
  refine lv_iconst (v := 3) hx hb dL_law_156 (by decide) ?_
  refine lv_iadd hx hb dL_law_157 ?_
  refine va_sld hx hb hX hbl hbA hS (idx_in hi hj hL (by decide)) dL_law_158 ?_
  refine lv_aload_n hx hb dL_law_159 rfl (lv_at hl 4 rfl) ?_
  refine lv_iload hx hb dL_law_160 (lv_at hl 0 rfl) ?_
  refine lv_iconst (v := 4) hx hb dL_law_162 (by decide) ?_
  refine lv_iadd hx hb dL_law_163 ?_
  refine va_sld hx hb hX hbl hbA hS (idx_in hi hj hL (by decide)) dL_law_164 ?_
  have hKc : va_K D vwCl (tRS cA cB) s := hK.sub [0, 1] rfl
  have hPc : va_P D vwCl (cRS h q1 q2 cA cB tf ff cw td an qb pa) H := hP.sub [0, 1, 2] rfl
  have hDc : va_D (fun q => s.heap.size ≤ q) (cRS h q1 q2 cA cB tf ff cw td an qb pa) := hD.sub [0, 1, 2] (by decide) rfl
  have hFc := va_free (wc := cRS h q1 q2 cA cB tf ff cw td an qb pa) hD hS hA [0, 1, 2] rfl
  refine va_calli (vx_runSW (As := [.ref h, .int (xs (i + 1).toNatClampNeg), .int (xs (i + 2).toNatClampNeg), .int (xs (i + 3).toNatClampNeg), .int (xs (i + 4).toNatClampNeg)]) (rest := []) ⟨hx, hb, hml, hown, hts⟩ (c_L_set l hl9 D ad h q1 q2 cA cB tf ff cw td an qb pa (xs (i + 1).toNatClampNeg) (xs (i + 2).toNatClampNeg) (xs (i + 3).toNatClampNeg) (xs (i + 4).toNatClampNeg) H.size) (vx_cwSW 5 hts gL_law_L_set rfl rfl rfl kS_L_set ⟨Nat.le_of_ble_eq_true rfl, Nat.le_of_ble_eq_true rfl⟩) ⟨TXB.blind MRB.blind, TXB.pre (MRB.pre hKc hPc hDc vP_nil ap_nil hE hS hFc) hDW⟩ rfl rfl hl.1 rfl (lv_room (Nat.le_of_ble_eq_true rfl)) dL_law_165 ⟨rmC (by omega), rmS (by omega)⟩) hS (fun q _ h9 => hFc q h9) hFc (fun k9 u9 t9 H1 locs1 ht hvm hw hB hz1 hk1 hS => ?_)
  obtain rfl := hw
  obtain ⟨o_tf, o_ff, hq, hP1, hD1⟩ := hB
  rw [ht] at hP1
  obtain ⟨hP, hD⟩ := va_join (wr := cOM o cC fo g r1 r2 dA dB cd ct tg fg tE aE qE pE aT aF dg fi lo) (w1 := cRS h q1 q2 cA cB o_tf o_ff cw td an qb pa) hP hD [0, 1, 2] [3, 4, 5, 6] rfl rfl (by decide) (by decide) hk1 hFc hP1 hD1
  have hP : va_P D vwCl (wW h q1 q2 cA cB o_tf o_ff cw td an qb pa o cC fo g r1 r2 dA dB cd ct tg fg tE aE qE pE aT aF dg fi lo) H1 := hP.sub [4, 5, 6, 0, 1, 2, 3] rfl
  have hD : va_D (fun q => s.heap.size ≤ q) (wW h q1 q2 cA cB o_tf o_ff cw td an qb pa o cC fo g r1 r2 dA dB cd ct tg fg tE aE qE pE aT aF dg fi lo) := hD.sub [4, 5, 6, 0, 1, 2, 3] (by decide) rfl
  refine lv_istore (lv' := [(5, .int k9), (4, .int i), (3, .ref o), (2, .ref g), (1, .ref h), (0, .ref b)]) hx hb dL_law_168 hl (by decide) rfl (fun ls hl => ?_)
  refine lv_aload_n hx hb dL_law_170 rfl (lv_at hl 3 rfl) ?_
  refine lv_aload_n hx hb dL_law_171 rfl (lv_at hl 5 rfl) ?_
  refine lv_iload hx hb dL_law_172 (lv_at hl 1 rfl) ?_
  refine lv_iconst (v := 1) hx hb dL_law_174 (by decide) ?_
  refine lv_iadd hx hb dL_law_175 ?_
  refine va_sld hx hb hX hbl hbA hS (idx_in hi hj hL (by decide)) dL_law_176 ?_
  refine lv_aload_n hx hb dL_law_177 rfl (lv_at hl 5 rfl) ?_
  refine lv_iload hx hb dL_law_178 (lv_at hl 1 rfl) ?_
  refine lv_iconst (v := 2) hx hb dL_law_180 (by decide) ?_
  refine lv_iadd hx hb dL_law_181 ?_
  refine va_sld hx hb hX hbl hbA hS (idx_in hi hj hL (by decide)) dL_law_182 ?_
  refine lv_aload_n hx hb dL_law_183 rfl (lv_at hl 5 rfl) ?_
  refine lv_iload hx hb dL_law_184 (lv_at hl 1 rfl) ?_
  refine lv_iconst (v := 3) hx hb dL_law_186 (by decide) ?_
  refine lv_iadd hx hb dL_law_187 ?_
  refine va_sld hx hb hX hbl hbA hS (idx_in hi hj hL (by decide)) dL_law_188 ?_
  refine lv_aload_n hx hb dL_law_189 rfl (lv_at hl 5 rfl) ?_
  refine lv_iload hx hb dL_law_190 (lv_at hl 1 rfl) ?_
  refine lv_iconst (v := 4) hx hb dL_law_192 (by decide) ?_
  refine lv_iadd hx hb dL_law_193 ?_
  refine va_sld hx hb hX hbl hbA hS (idx_in hi hj hL (by decide)) dL_law_194 ?_
  have hKm : va_K D vwCl (tRS dA dB) s := hK.sub [3, 4] rfl
  have hPm : va_P D vwCl (cMd g r1 r2 dA dB cd ct tg fg tE aE qE pE aT aF dg fi lo) H1 := hP.sub [4, 5, 6] rfl
  have hDm : va_D (fun q => s.heap.size ≤ q) (cMd g r1 r2 dA dB cd ct tg fg tE aE qE pE aT aF dg fi lo) := hD.sub [4, 5, 6] (by decide) rfl
  have hFm := va_free (wc := cMd g r1 r2 dA dB cd ct tg fg tE aE qE pE aT aF dg fi lo) hD hS hA [4, 5, 6] rfl
  refine va_callv (va_runV (As := [.int (xs (i + 1).toNatClampNeg), .int (xs (i + 2).toNatClampNeg), .int (xs (i + 3).toNatClampNeg), .int (xs (i + 4).toNatClampNeg)]) (rest := []) ⟨hx, hb, hml, hown, hts⟩ (c_X3_set l D g r1 r2 dA dB cd ct tg fg tE aE qE pE aT aF dg fi lo (xs (i + 1).toNatClampNeg) (xs (i + 2).toNatClampNeg) (xs (i + 3).toNatClampNeg) (xs (i + 4).toNatClampNeg) H1.size) (cwV 4 hts gL_law_X3_set rfl rfl rfl kV_X3_set ⟨Nat.le_of_ble_eq_true rfl, Nat.le_of_ble_eq_true rfl⟩) ⟨MMB.blind, va_recv hKm hPm (ci := 2) (q0 := 0) rfl rfl, MMB.pre hKm hPm hDm⟩ rfl rfl hl.1 rfl (lv_room (Nat.le_of_ble_eq_true rfl)) dL_law_195 ⟨rmC (by omega), rmS (by omega)⟩) hS (fun q _ h9 => hFm q h9) hFm (fun u9 t9 H2 locs2 ht hvm hw hB hz1 hk1 hS => ?_)
  obtain ⟨m_cd, m_tf, m_ff, hm, hP1, hD1⟩ := hB
  rw [ht] at hP1
  obtain ⟨hP, hD⟩ := va_join (wr := cL h q1 q2 cA cB o_tf o_ff cw td an qb pa o cC fo) (w1 := cMd g r1 r2 dA dB m_cd ct m_tf m_ff tE aE qE pE aT aF dg fi lo) hP hD [4, 5, 6] [0, 1, 2, 3] rfl rfl (by decide) (by decide) hk1 hFm hP1 hD1
  have hP : va_P D vwCl (wW h q1 q2 cA cB o_tf o_ff cw td an qb pa o cC fo g r1 r2 dA dB m_cd ct m_tf m_ff tE aE qE pE aT aF dg fi lo) H2 := hP
  have hD : va_D (fun q => s.heap.size ≤ q) (wW h q1 q2 cA cB o_tf o_ff cw td an qb pa o cC fo g r1 r2 dA dB m_cd ct m_tf m_ff tE aE qE pE aT aF dg fi lo) := hD
  obtain ⟨hk9, hinv⟩ := hs tf ff cw td an qb pa cd ct tg fg tE aE qE pE aT aF dg fi lo (xs (i + 1).toNatClampNeg) (xs (i + 2).toNatClampNeg) (xs (i + 3).toNatClampNeg) (xs (i + 4).toNatClampNeg) hinv _ _ _ _ _ _ hq hm
  refine lv_aload_n hx hb dL_law_198 rfl (lv_at hl 3 rfl) ?_
  have hPm : va_P D vwCl (cMd g r1 r2 dA dB m_cd ct m_tf m_ff tE aE qE pE aT aF dg fi lo) H2 := hP.sub [4, 5, 6] rfl
  refine vp_callSi (va_cr (va_runV (As := []) (rest := []) ⟨hx, hb, hml, hown, hts⟩ (c_X3_thrown l D g r1 r2 dA dB m_cd ct m_tf m_ff tE aE qE pE aT aF dg fi lo) (cwV 0 hts gL_law_X3_thrown rfl rfl rfl kV_X3_thrown ⟨Nat.le_of_ble_eq_true rfl, Nat.le_of_ble_eq_true rfl⟩) ⟨PB.blind, va_recv hKm hPm (ci := 2) (q0 := 0) rfl rfl, PB.pre hKm hPm⟩ rfl rfl hl.1 rfl (lv_room (Nat.le_of_ble_eq_true rfl)) dL_law_199 ⟨rmC (by omega), rmS (by omega)⟩)) (fun r9 e9 => ?_)
  rw [e9]
  refine lv_iload hx hb dL_law_202 (lv_at hl 0 rfl) ?_
  refine lv_icmp_eq (tgt := 209) hx hb dL_law_204 (by decide) (fun c_2 => ?_) (fun c_2 => absurd hk9 c_2)
  refine lv_goto (tgt := 936) hx hb dL_law_209 (by decide) ?_
  refine W.widen (k := cells + 6) (n := slots + 24) (by omega) (by omega) ?_
  exact K _ _ _ _ _ _ _ _ _ _ _ _ _ _ _ _ _ _ _ _ _ _ _ _ hinv hP hD hS (lv_sub hl [1, 2, 3, 4, 5] rfl)
set_option maxHeartbeats 4000000 in
set_option maxRecDepth 100000 in
theorem law_part {p : Program} {l : Launch} {e : Env} {s : State} {m : MethodId} {below : List Frame} {meth : Method} {c : Code} {b L : Nat} {xs : Nat → Int32} {Q : State → Prop} {D : va_G} {ad : Nat → Nat} (hs : S_part) (C0 : LC p l s m meth c b L xs ad) {j : Nat} {i : Int32} (hi : i.toInt = 5 * (j : Int)) (hj : 5 * j + 5 ≤ L) {cells slots : Nat} (hc6 : cells + 6 ≤ 710647) (hs24 : slots + 24 ≤ 6964162) {h q1 q2 g r1 r2 o : Nat} {cA cB cC dA dB : ClassId} (tf : Nat → Int32) (ff : Nat → Int64) (cw : Int32) (td : Int32) (an : Bool) (qb : Int32) (pa : Bool) (cd : Int32) (ct : Int32) (tg : Nat → Int32) (fg : Nat → Int64) (tE : Int32) (aE : Bool) (qE : Int32) (pE : Bool) (aT : Int32) (aF : Int64) (dg : Int64) (fi : Int32) (lo : Bool) (fo : Nat → Int64) (hinv : INV tf ff cw td an qb pa ct tg fg tE aE qE pE) {H : Heap} {locs : List Loc} (hK : va_K D vwCl (tW cA cB cC dA dB) s) (hP : va_P D vwCl (wW h q1 q2 cA cB tf ff cw td an qb pa o cC fo g r1 r2 dA dB cd ct tg fg tE aE qE pE aT aF dg fi lo) H) (hD : va_D (fun q => s.heap.size ≤ q) (wW h q1 q2 cA cB tf ff cw td an qb pa o cC fo g r1 r2 dA dB cd ct tg fg tE aE qE pE aT aF dg fi lo)) (hS : va_S (fun q => s.heap.size ≤ q) s.heap H locs) {ls : Array Slot} (hl : lv_has ls 7 [(4, .int i), (3, .ref o), (2, .ref g), (1, .ref h), (0, .ref b)]) (K : ∀ (tf : Nat → Int32) (ff : Nat → Int64) (cw : Int32) (td : Int32) (an : Bool) (qb : Int32) (pa : Bool) (cd : Int32) (ct : Int32) (tg : Nat → Int32) (fg : Nat → Int64) (tE : Int32) (aE : Bool) (qE : Int32) (pE : Bool) (aT : Int32) (aF : Int64) (dg : Int64) (fi : Int32) (lo : Bool) (fo : Nat → Int64) (H : Heap) (locs : List Loc) (ls : Array Slot), INV tf ff cw td an qb pa ct tg fg tE aE qE pE → va_P D vwCl (wW h q1 q2 cA cB tf ff cw td an qb pa o cC fo g r1 r2 dA dB cd ct tg fg tE aE qE pE aT aF dg fi lo) H → va_D (fun q => s.heap.size ≤ q) (wW h q1 q2 cA cB tf ff cw td an qb pa o cC fo g r1 r2 dA dB cd ct tg fg tE aE qE pE aT aF dg fi lo) → va_S (fun q => s.heap.size ≤ q) s.heap H locs → lv_has ls 7 [(4, .int i), (3, .ref o), (2, .ref g), (1, .ref h), (0, .ref b)] → W p l e room_1 s m #[Value.ref b] below meth c H locs (cells + 6) (slots + 24) Q (F0 m 936 ls [])) : W p l e room_1 s m #[Value.ref b] below meth c H locs cells slots Q (F0 m 212 ls []) := by
  obtain ⟨hx, hb, hr, hml, hown, hts, hX, hbl, hlocks, hE, hDW, hl9, hL⟩ := C0
  have hA : ∀ q : Nat, s.heap.size ≤ q → (fun q : Nat => s.heap.size ≤ q) q := fun _ h => h
  have hbA : ¬ (fun q : Nat => s.heap.size ≤ q) b := Nat.not_le.mpr hbl
  refine lv_aload_n hx hb dL_law_212 rfl (lv_at hl 3 rfl) ?_
  refine lv_aload_n hx hb dL_law_213 rfl (lv_at hl 4 rfl) ?_
  refine lv_iload hx hb dL_law_214 (lv_at hl 0 rfl) ?_
  refine lv_iconst (v := 1) hx hb dL_law_216 (by decide) ?_
  refine lv_iadd hx hb dL_law_217 ?_
  refine va_sld hx hb hX hbl hbA hS (idx_in hi hj hL (by decide)) dL_law_218 ?_
  refine lv_aload_n hx hb dL_law_219 rfl (lv_at hl 4 rfl) ?_
  refine lv_iload hx hb dL_law_220 (lv_at hl 0 rfl) ?_
  refine lv_iconst (v := 2) hx hb dL_law_222 (by decide) ?_
  refine lv_iadd hx hb dL_law_223 ?_
  refine va_sld hx hb hX hbl hbA hS (idx_in hi hj hL (by decide)) dL_law_224 ?_
  refine lv_aload_n hx hb dL_law_225 rfl (lv_at hl 1 rfl) ?_
  have hKc : va_K D vwCl (tL cA cB cC) s := hK.sub [0, 1, 2] rfl
  have hPc : va_P D vwCl (cL h q1 q2 cA cB tf ff cw td an qb pa o cC fo) H := hP.sub [0, 1, 2, 3] rfl
  have hDc : va_D (fun q => s.heap.size ≤ q) (cL h q1 q2 cA cB tf ff cw td an qb pa o cC fo) := hD.sub [0, 1, 2, 3] (by decide) rfl
  have hFc := va_free (wc := cL h q1 q2 cA cB tf ff cw td an qb pa o cC fo) hD hS hA [0, 1, 2, 3] rfl
  refine va_calli (vx_runSW (As := [.ref h, .int (xs (i + 1).toNatClampNeg), .int (xs (i + 2).toNatClampNeg), .ref o]) (rest := []) ⟨hx, hb, hml, hown, hts⟩ (c_L_part l hl9 D ad h q1 q2 cA cB tf ff cw td an qb pa o cC fo (xs (i + 1).toNatClampNeg) (xs (i + 2).toNatClampNeg) H.size) (vx_cwSW 4 hts gL_law_L_part rfl rfl rfl kS_L_part ⟨Nat.le_of_ble_eq_true rfl, Nat.le_of_ble_eq_true rfl⟩) ⟨TXB.blind MRB.blind, TXB.pre (MRB.pre hKc hPc hDc vP_nil ap_nil hE hS hFc) hDW⟩ rfl rfl hl.1 rfl (lv_room (Nat.le_of_ble_eq_true rfl)) dL_law_226 ⟨rmC (by omega), rmS (by omega)⟩) hS (fun q _ h9 => hFc q h9) hFc (fun k9 u9 t9 H1 locs1 ht hvm hw hB hz1 hk1 hS => ?_)
  obtain rfl := hw
  obtain ⟨v9, fo9, hq, hfo, hP1, hD1⟩ := hB
  rw [ht] at hP1
  obtain ⟨hP, hD⟩ := va_join (wr := cMd g r1 r2 dA dB cd ct tg fg tE aE qE pE aT aF dg fi lo) (w1 := cL h q1 q2 cA cB tf ff cw td an qb pa o cC fo9) hP hD [0, 1, 2, 3] [4, 5, 6] rfl rfl (by decide) (by decide) hk1 hFc hP1 hD1
  have hP : va_P D vwCl (wW h q1 q2 cA cB tf ff cw td an qb pa o cC fo9 g r1 r2 dA dB cd ct tg fg tE aE qE pE aT aF dg fi lo) H1 := hP.sub [3, 4, 5, 6, 0, 1, 2] rfl
  have hD : va_D (fun q => s.heap.size ≤ q) (wW h q1 q2 cA cB tf ff cw td an qb pa o cC fo9 g r1 r2 dA dB cd ct tg fg tE aE qE pE aT aF dg fi lo) := hD.sub [3, 4, 5, 6, 0, 1, 2] (by decide) rfl
  refine lv_istore (lv' := [(5, .int k9), (4, .int i), (3, .ref o), (2, .ref g), (1, .ref h), (0, .ref b)]) hx hb dL_law_229 hl (by decide) rfl (fun ls hl => ?_)
  refine lv_aload_n hx hb dL_law_231 rfl (lv_at hl 3 rfl) ?_
  refine lv_aload_n hx hb dL_law_232 rfl (lv_at hl 5 rfl) ?_
  refine lv_iload hx hb dL_law_233 (lv_at hl 1 rfl) ?_
  refine lv_iconst (v := 1) hx hb dL_law_235 (by decide) ?_
  refine lv_iadd hx hb dL_law_236 ?_
  refine va_sld hx hb hX hbl hbA hS (idx_in hi hj hL (by decide)) dL_law_237 ?_
  refine lv_aload_n hx hb dL_law_238 rfl (lv_at hl 5 rfl) ?_
  refine lv_iload hx hb dL_law_239 (lv_at hl 1 rfl) ?_
  refine lv_iconst (v := 2) hx hb dL_law_241 (by decide) ?_
  refine lv_iadd hx hb dL_law_242 ?_
  refine va_sld hx hb hX hbl hbA hS (idx_in hi hj hL (by decide)) dL_law_243 ?_
  have hKm : va_K D vwCl (tRS dA dB) s := hK.sub [3, 4] rfl
  have hPm : va_P D vwCl (cMd g r1 r2 dA dB cd ct tg fg tE aE qE pE aT aF dg fi lo) H1 := hP.sub [4, 5, 6] rfl
  have hDm : va_D (fun q => s.heap.size ≤ q) (cMd g r1 r2 dA dB cd ct tg fg tE aE qE pE aT aF dg fi lo) := hD.sub [4, 5, 6] (by decide) rfl
  have hFm := va_free (wc := cMd g r1 r2 dA dB cd ct tg fg tE aE qE pE aT aF dg fi lo) hD hS hA [4, 5, 6] rfl
  refine va_calli (va_runV (As := [.int (xs (i + 1).toNatClampNeg), .int (xs (i + 2).toNatClampNeg)]) (rest := []) ⟨hx, hb, hml, hown, hts⟩ (c_X3_part l D g r1 r2 dA dB cd ct tg fg tE aE qE pE aT aF dg fi lo (xs (i + 1).toNatClampNeg) (xs (i + 2).toNatClampNeg) H1.size) (cwV 2 hts gL_law_X3_part rfl rfl rfl kV_X3_part ⟨Nat.le_of_ble_eq_true rfl, Nat.le_of_ble_eq_true rfl⟩) ⟨MMB.blind, va_recv hKm hPm (ci := 2) (q0 := 0) rfl rfl, MMB.pre hKm hPm hDm⟩ rfl rfl hl.1 rfl (lv_room (Nat.le_of_ble_eq_true rfl)) dL_law_244 ⟨rmC (by omega), rmS (by omega)⟩) hS (fun q _ h9 => hFm q h9) hFm (fun b9 u9 t9 H2 locs2 ht hvm hw hB hz1 hk1 hS => ?_)
  obtain rfl := hw
  obtain ⟨m_cd, hm, hP1, hD1⟩ := hB
  rw [ht] at hP1
  obtain ⟨hP, hD⟩ := va_join (wr := cL h q1 q2 cA cB tf ff cw td an qb pa o cC fo9) (w1 := cMd g r1 r2 dA dB m_cd ct tg fg tE aE qE pE aT aF dg fi lo) hP hD [4, 5, 6] [0, 1, 2, 3] rfl rfl (by decide) (by decide) hk1 hFm hP1 hD1
  have hP : va_P D vwCl (wW h q1 q2 cA cB tf ff cw td an qb pa o cC fo9 g r1 r2 dA dB m_cd ct tg fg tE aE qE pE aT aF dg fi lo) H2 := hP
  have hD : va_D (fun q => s.heap.size ≤ q) (wW h q1 q2 cA cB tf ff cw td an qb pa o cC fo9 g r1 r2 dA dB m_cd ct tg fg tE aE qE pE aT aF dg fi lo) := hD
  obtain ⟨hk9, hv9, hinv⟩ := hs tf ff cw td an qb pa cd ct tg fg tE aE qE pE aT aF dg fi lo (xs (i + 1).toNatClampNeg) (xs (i + 2).toNatClampNeg) hinv _ _ _ _ hq hm
  refine lv_istore (lv' := [(6, .int b9), (5, .int k9), (4, .int i), (3, .ref o), (2, .ref g), (1, .ref h), (0, .ref b)]) hx hb dL_law_247 hl (by decide) rfl (fun ls hl => ?_)
  refine lv_aload_n hx hb dL_law_249 rfl (lv_at hl 4 rfl) ?_
  have hPm : va_P D vwCl (cMd g r1 r2 dA dB m_cd ct tg fg tE aE qE pE aT aF dg fi lo) H2 := hP.sub [4, 5, 6] rfl
  refine vp_callSi (va_cr (va_runV (As := []) (rest := []) ⟨hx, hb, hml, hown, hts⟩ (c_X3_thrown l D g r1 r2 dA dB m_cd ct tg fg tE aE qE pE aT aF dg fi lo) (cwV 0 hts gL_law_X3_thrown rfl rfl rfl kV_X3_thrown ⟨Nat.le_of_ble_eq_true rfl, Nat.le_of_ble_eq_true rfl⟩) ⟨PB.blind, va_recv hKm hPm (ci := 2) (q0 := 0) rfl rfl, PB.pre hKm hPm⟩ rfl rfl hl.1 rfl (lv_room (Nat.le_of_ble_eq_true rfl)) dL_law_250 ⟨rmC (by omega), rmS (by omega)⟩)) (fun r9 e9 => ?_)
  rw [e9]
  refine lv_iload hx hb dL_law_253 (lv_at hl 1 rfl) ?_
  refine lv_icmp_eq (tgt := 260) hx hb dL_law_255 (by decide) (fun c_2 => ?_) (fun c_2 => absurd hk9 c_2)
  refine lv_iload hx hb dL_law_260 (lv_at hl 1 rfl) ?_
  refine lv_if_ne (tgt := 277) hx hb dL_law_262 (by decide) (fun c_3 => ?_) (fun c_3 => ?_)
  · refine lv_goto (tgt := 936) hx hb dL_law_277 (by decide) ?_
    refine W.widen (k := cells + 6) (n := slots + 24) (by omega) (by omega) ?_
    exact K _ _ _ _ _ _ _ _ _ _ _ _ _ _ _ _ _ _ _ _ _ _ _ _ hinv hP hD hS (lv_sub hl [2, 3, 4, 5, 6] rfl)
  · refine lv_aload_n hx hb dL_law_265 rfl (lv_at hl 3 rfl) ?_
    refine lv_iconst (v := 0) hx hb dL_law_266 (by decide) ?_
    refine va_lald hx hb hK hP 3 2 rfl rfl in_01 dL_law_267 ?_
    refine lv_iload hx hb dL_law_268 (lv_at hl 0 rfl) ?_
    refine lv_i2l (v := b9.toInt64) hx hb dL_law_270 rfl ?_
    refine q_cl_eq (tgt := 277) hx hb dL_law_271 dL_law_272 (by decide) (fun c_4 => ?_) (fun c_4 => absurd ((hfo c_3).trans (congrArg Int32.toInt64 (hv9 c_3))) c_4)
    refine lv_goto (tgt := 936) hx hb dL_law_277 (by decide) ?_
    refine W.widen (k := cells + 6) (n := slots + 24) (by omega) (by omega) ?_
    exact K _ _ _ _ _ _ _ _ _ _ _ _ _ _ _ _ _ _ _ _ _ _ _ _ hinv hP hD hS (lv_sub hl [2, 3, 4, 5, 6] rfl)
set_option maxHeartbeats 4000000 in
set_option maxRecDepth 100000 in
theorem law_turn {p : Program} {l : Launch} {e : Env} {s : State} {m : MethodId} {below : List Frame} {meth : Method} {c : Code} {b L : Nat} {xs : Nat → Int32} {Q : State → Prop} {D : va_G} {ad : Nat → Nat} (hs : S_turn) (C0 : LC p l s m meth c b L xs ad) {j : Nat} {i : Int32} (hi : i.toInt = 5 * (j : Int)) (hj : 5 * j + 5 ≤ L) {cells slots : Nat} (hc6 : cells + 6 ≤ 710647) (hs24 : slots + 24 ≤ 6964162) {h q1 q2 g r1 r2 o : Nat} {cA cB cC dA dB : ClassId} (tf : Nat → Int32) (ff : Nat → Int64) (cw : Int32) (td : Int32) (an : Bool) (qb : Int32) (pa : Bool) (cd : Int32) (ct : Int32) (tg : Nat → Int32) (fg : Nat → Int64) (tE : Int32) (aE : Bool) (qE : Int32) (pE : Bool) (aT : Int32) (aF : Int64) (dg : Int64) (fi : Int32) (lo : Bool) (fo : Nat → Int64) (hinv : INV tf ff cw td an qb pa ct tg fg tE aE qE pE) {H : Heap} {locs : List Loc} (hK : va_K D vwCl (tW cA cB cC dA dB) s) (hP : va_P D vwCl (wW h q1 q2 cA cB tf ff cw td an qb pa o cC fo g r1 r2 dA dB cd ct tg fg tE aE qE pE aT aF dg fi lo) H) (hD : va_D (fun q => s.heap.size ≤ q) (wW h q1 q2 cA cB tf ff cw td an qb pa o cC fo g r1 r2 dA dB cd ct tg fg tE aE qE pE aT aF dg fi lo)) (hS : va_S (fun q => s.heap.size ≤ q) s.heap H locs) {ls : Array Slot} (hl : lv_has ls 7 [(4, .int i), (3, .ref o), (2, .ref g), (1, .ref h), (0, .ref b)]) (K : ∀ (tf : Nat → Int32) (ff : Nat → Int64) (cw : Int32) (td : Int32) (an : Bool) (qb : Int32) (pa : Bool) (cd : Int32) (ct : Int32) (tg : Nat → Int32) (fg : Nat → Int64) (tE : Int32) (aE : Bool) (qE : Int32) (pE : Bool) (aT : Int32) (aF : Int64) (dg : Int64) (fi : Int32) (lo : Bool) (fo : Nat → Int64) (H : Heap) (locs : List Loc) (ls : Array Slot), INV tf ff cw td an qb pa ct tg fg tE aE qE pE → va_P D vwCl (wW h q1 q2 cA cB tf ff cw td an qb pa o cC fo g r1 r2 dA dB cd ct tg fg tE aE qE pE aT aF dg fi lo) H → va_D (fun q => s.heap.size ≤ q) (wW h q1 q2 cA cB tf ff cw td an qb pa o cC fo g r1 r2 dA dB cd ct tg fg tE aE qE pE aT aF dg fi lo) → va_S (fun q => s.heap.size ≤ q) s.heap H locs → lv_has ls 7 [(4, .int i), (3, .ref o), (2, .ref g), (1, .ref h), (0, .ref b)] → W p l e room_1 s m #[Value.ref b] below meth c H locs (cells + 6) (slots + 24) Q (F0 m 936 ls [])) : W p l e room_1 s m #[Value.ref b] below meth c H locs cells slots Q (F0 m 280 ls []) := by
  obtain ⟨hx, hb, hr, hml, hown, hts, hX, hbl, hlocks, hE, hDW, hl9, hL⟩ := C0
  have hA : ∀ q : Nat, s.heap.size ≤ q → (fun q : Nat => s.heap.size ≤ q) q := fun _ h => h
  have hbA : ¬ (fun q : Nat => s.heap.size ≤ q) b := Nat.not_le.mpr hbl
  refine lv_aload_n hx hb dL_law_280 rfl (lv_at hl 3 rfl) ?_
  refine lv_aload_n hx hb dL_law_281 rfl (lv_at hl 4 rfl) ?_
  refine lv_iload hx hb dL_law_282 (lv_at hl 0 rfl) ?_
  refine lv_iconst (v := 1) hx hb dL_law_284 (by decide) ?_
  refine lv_iadd hx hb dL_law_285 ?_
  refine va_sld hx hb hX hbl hbA hS (idx_in hi hj hL (by decide)) dL_law_286 ?_
  refine lv_aload_n hx hb dL_law_287 rfl (lv_at hl 4 rfl) ?_
  refine lv_iload hx hb dL_law_288 (lv_at hl 0 rfl) ?_
  refine lv_iconst (v := 2) hx hb dL_law_290 (by decide) ?_
  refine lv_iadd hx hb dL_law_291 ?_
  refine va_sld hx hb hX hbl hbA hS (idx_in hi hj hL (by decide)) dL_law_292 ?_
  refine q_cut (v := bI (if xs (i + 2).toNatClampNeg = 0 then false else true)) (pcJ := 301) (rest := [.int (xs (i + 1).toNatClampNeg), .ref h]) (fun J => ?_) ?_
  · refine lv_if_eq (tgt := 300) hx hb dL_law_293 (by decide) (fun c_1 => ?_) (fun c_1 => ?_)
    · refine lv_iconst (v := 0) hx hb dL_law_300 (by decide) ?_
      exact J _ (by rw [if_pos c_1]; rfl)
    · refine lv_iconst (v := 1) hx hb dL_law_296 (by decide) ?_
      refine lv_goto (tgt := 301) hx hb dL_law_297 (by decide) ?_
      exact J _ (by rw [if_neg c_1]; rfl)
  have hKc : va_K D vwCl (tRS cA cB) s := hK.sub [0, 1] rfl
  have hPc : va_P D vwCl (cRS h q1 q2 cA cB tf ff cw td an qb pa) H := hP.sub [0, 1, 2] rfl
  have hDc : va_D (fun q => s.heap.size ≤ q) (cRS h q1 q2 cA cB tf ff cw td an qb pa) := hD.sub [0, 1, 2] (by decide) rfl
  have hFc := va_free (wc := cRS h q1 q2 cA cB tf ff cw td an qb pa) hD hS hA [0, 1, 2] rfl
  refine va_calli (vx_runSW (As := [.ref h, .int (xs (i + 1).toNatClampNeg), .int (bI (if xs (i + 2).toNatClampNeg = 0 then false else true))]) (rest := []) ⟨hx, hb, hml, hown, hts⟩ (c_L_turn l hl9 D ad h q1 q2 cA cB tf ff cw td an qb pa (xs (i + 1).toNatClampNeg) (if xs (i + 2).toNatClampNeg = 0 then false else true) H.size) (vx_cwSW 3 hts gL_law_L_turn rfl rfl rfl kS_L_turn ⟨Nat.le_of_ble_eq_true rfl, Nat.le_of_ble_eq_true rfl⟩) ⟨TXB.blind MRB.blind, TXB.pre (MRB.pre hKc hPc hDc vP_nil ap_nil hE hS hFc) hDW⟩ rfl rfl hl.1 rfl (lv_room (Nat.le_of_ble_eq_true rfl)) dL_law_301 ⟨rmC (by omega), rmS (by omega)⟩) hS (fun q _ h9 => hFc q h9) hFc (fun k9 u9 t9 H1 locs1 ht hvm hw hB hz1 hk1 hS => ?_)
  obtain rfl := hw
  obtain ⟨o_tf, hq, hP1, hD1⟩ := hB
  rw [ht] at hP1
  obtain ⟨hP, hD⟩ := va_join (wr := cOM o cC fo g r1 r2 dA dB cd ct tg fg tE aE qE pE aT aF dg fi lo) (w1 := cRS h q1 q2 cA cB o_tf ff cw td an qb pa) hP hD [0, 1, 2] [3, 4, 5, 6] rfl rfl (by decide) (by decide) hk1 hFc hP1 hD1
  have hP : va_P D vwCl (wW h q1 q2 cA cB o_tf ff cw td an qb pa o cC fo g r1 r2 dA dB cd ct tg fg tE aE qE pE aT aF dg fi lo) H1 := hP.sub [4, 5, 6, 0, 1, 2, 3] rfl
  have hD : va_D (fun q => s.heap.size ≤ q) (wW h q1 q2 cA cB o_tf ff cw td an qb pa o cC fo g r1 r2 dA dB cd ct tg fg tE aE qE pE aT aF dg fi lo) := hD.sub [4, 5, 6, 0, 1, 2, 3] (by decide) rfl
  refine lv_istore (lv' := [(5, .int k9), (4, .int i), (3, .ref o), (2, .ref g), (1, .ref h), (0, .ref b)]) hx hb dL_law_304 hl (by decide) rfl (fun ls hl => ?_)
  refine lv_aload_n hx hb dL_law_306 rfl (lv_at hl 3 rfl) ?_
  refine lv_aload_n hx hb dL_law_307 rfl (lv_at hl 5 rfl) ?_
  refine lv_iload hx hb dL_law_308 (lv_at hl 1 rfl) ?_
  refine lv_iconst (v := 1) hx hb dL_law_310 (by decide) ?_
  refine lv_iadd hx hb dL_law_311 ?_
  refine va_sld hx hb hX hbl hbA hS (idx_in hi hj hL (by decide)) dL_law_312 ?_
  refine lv_aload_n hx hb dL_law_313 rfl (lv_at hl 5 rfl) ?_
  refine lv_iload hx hb dL_law_314 (lv_at hl 1 rfl) ?_
  refine lv_iconst (v := 2) hx hb dL_law_316 (by decide) ?_
  refine lv_iadd hx hb dL_law_317 ?_
  refine va_sld hx hb hX hbl hbA hS (idx_in hi hj hL (by decide)) dL_law_318 ?_
  refine q_cut (v := bI (if xs (i + 2).toNatClampNeg = 0 then false else true)) (pcJ := 327) (rest := [.int (xs (i + 1).toNatClampNeg), .ref g]) (fun J => ?_) ?_
  · refine lv_if_eq (tgt := 326) hx hb dL_law_319 (by decide) (fun c_1 => ?_) (fun c_1 => ?_)
    · refine lv_iconst (v := 0) hx hb dL_law_326 (by decide) ?_
      exact J _ (by rw [if_pos c_1]; rfl)
    · refine lv_iconst (v := 1) hx hb dL_law_322 (by decide) ?_
      refine lv_goto (tgt := 327) hx hb dL_law_323 (by decide) ?_
      exact J _ (by rw [if_neg c_1]; rfl)
  have hKm : va_K D vwCl (tRS dA dB) s := hK.sub [3, 4] rfl
  have hPm : va_P D vwCl (cMd g r1 r2 dA dB cd ct tg fg tE aE qE pE aT aF dg fi lo) H1 := hP.sub [4, 5, 6] rfl
  have hDm : va_D (fun q => s.heap.size ≤ q) (cMd g r1 r2 dA dB cd ct tg fg tE aE qE pE aT aF dg fi lo) := hD.sub [4, 5, 6] (by decide) rfl
  have hFm := va_free (wc := cMd g r1 r2 dA dB cd ct tg fg tE aE qE pE aT aF dg fi lo) hD hS hA [4, 5, 6] rfl
  refine va_callv (va_runV (As := [.int (xs (i + 1).toNatClampNeg), .int (bI (if xs (i + 2).toNatClampNeg = 0 then false else true))]) (rest := []) ⟨hx, hb, hml, hown, hts⟩ (c_X3_turn l D g r1 r2 dA dB cd ct tg fg tE aE qE pE aT aF dg fi lo (xs (i + 1).toNatClampNeg) (if xs (i + 2).toNatClampNeg = 0 then false else true) H1.size) (cwV 2 hts gL_law_X3_turn rfl rfl rfl kV_X3_turn ⟨Nat.le_of_ble_eq_true rfl, Nat.le_of_ble_eq_true rfl⟩) ⟨MMB.blind, va_recv hKm hPm (ci := 2) (q0 := 0) rfl rfl, MMB.pre hKm hPm hDm⟩ rfl rfl hl.1 rfl (lv_room (Nat.le_of_ble_eq_true rfl)) dL_law_327 ⟨rmC (by omega), rmS (by omega)⟩) hS (fun q _ h9 => hFm q h9) hFm (fun u9 t9 H2 locs2 ht hvm hw hB hz1 hk1 hS => ?_)
  obtain ⟨m_cd, m_tf, hm, hP1, hD1⟩ := hB
  rw [ht] at hP1
  obtain ⟨hP, hD⟩ := va_join (wr := cL h q1 q2 cA cB o_tf ff cw td an qb pa o cC fo) (w1 := cMd g r1 r2 dA dB m_cd ct m_tf fg tE aE qE pE aT aF dg fi lo) hP hD [4, 5, 6] [0, 1, 2, 3] rfl rfl (by decide) (by decide) hk1 hFm hP1 hD1
  have hP : va_P D vwCl (wW h q1 q2 cA cB o_tf ff cw td an qb pa o cC fo g r1 r2 dA dB m_cd ct m_tf fg tE aE qE pE aT aF dg fi lo) H2 := hP
  have hD : va_D (fun q => s.heap.size ≤ q) (wW h q1 q2 cA cB o_tf ff cw td an qb pa o cC fo g r1 r2 dA dB m_cd ct m_tf fg tE aE qE pE aT aF dg fi lo) := hD
  obtain ⟨hk9, hinv⟩ := hs tf ff cw td an qb pa cd ct tg fg tE aE qE pE aT aF dg fi lo (xs (i + 1).toNatClampNeg) (if xs (i + 2).toNatClampNeg = 0 then false else true) hinv _ _ _ _ hq hm
  refine lv_aload_n hx hb dL_law_330 rfl (lv_at hl 3 rfl) ?_
  have hPm : va_P D vwCl (cMd g r1 r2 dA dB m_cd ct m_tf fg tE aE qE pE aT aF dg fi lo) H2 := hP.sub [4, 5, 6] rfl
  refine vp_callSi (va_cr (va_runV (As := []) (rest := []) ⟨hx, hb, hml, hown, hts⟩ (c_X3_thrown l D g r1 r2 dA dB m_cd ct m_tf fg tE aE qE pE aT aF dg fi lo) (cwV 0 hts gL_law_X3_thrown rfl rfl rfl kV_X3_thrown ⟨Nat.le_of_ble_eq_true rfl, Nat.le_of_ble_eq_true rfl⟩) ⟨PB.blind, va_recv hKm hPm (ci := 2) (q0 := 0) rfl rfl, PB.pre hKm hPm⟩ rfl rfl hl.1 rfl (lv_room (Nat.le_of_ble_eq_true rfl)) dL_law_331 ⟨rmC (by omega), rmS (by omega)⟩)) (fun r9 e9 => ?_)
  rw [e9]
  refine lv_iload hx hb dL_law_334 (lv_at hl 0 rfl) ?_
  refine lv_icmp_eq (tgt := 341) hx hb dL_law_336 (by decide) (fun c_2 => ?_) (fun c_2 => absurd hk9 c_2)
  refine lv_goto (tgt := 936) hx hb dL_law_341 (by decide) ?_
  refine W.widen (k := cells + 6) (n := slots + 24) (by omega) (by omega) ?_
  exact K _ _ _ _ _ _ _ _ _ _ _ _ _ _ _ _ _ _ _ _ _ _ _ _ hinv hP hD hS (lv_sub hl [1, 2, 3, 4, 5] rfl)
set_option maxHeartbeats 4000000 in
set_option maxRecDepth 100000 in
theorem law_constant {p : Program} {l : Launch} {e : Env} {s : State} {m : MethodId} {below : List Frame} {meth : Method} {c : Code} {b L : Nat} {xs : Nat → Int32} {Q : State → Prop} {D : va_G} {ad : Nat → Nat} (hs : S_constant) (C0 : LC p l s m meth c b L xs ad) {j : Nat} {i : Int32} (hi : i.toInt = 5 * (j : Int)) (hj : 5 * j + 5 ≤ L) {cells slots : Nat} (hc6 : cells + 6 ≤ 710647) (hs24 : slots + 24 ≤ 6964162) {h q1 q2 g r1 r2 o : Nat} {cA cB cC dA dB : ClassId} (tf : Nat → Int32) (ff : Nat → Int64) (cw : Int32) (td : Int32) (an : Bool) (qb : Int32) (pa : Bool) (cd : Int32) (ct : Int32) (tg : Nat → Int32) (fg : Nat → Int64) (tE : Int32) (aE : Bool) (qE : Int32) (pE : Bool) (aT : Int32) (aF : Int64) (dg : Int64) (fi : Int32) (lo : Bool) (fo : Nat → Int64) (hinv : INV tf ff cw td an qb pa ct tg fg tE aE qE pE) {H : Heap} {locs : List Loc} (hK : va_K D vwCl (tW cA cB cC dA dB) s) (hP : va_P D vwCl (wW h q1 q2 cA cB tf ff cw td an qb pa o cC fo g r1 r2 dA dB cd ct tg fg tE aE qE pE aT aF dg fi lo) H) (hD : va_D (fun q => s.heap.size ≤ q) (wW h q1 q2 cA cB tf ff cw td an qb pa o cC fo g r1 r2 dA dB cd ct tg fg tE aE qE pE aT aF dg fi lo)) (hS : va_S (fun q => s.heap.size ≤ q) s.heap H locs) {ls : Array Slot} (hl : lv_has ls 7 [(4, .int i), (3, .ref o), (2, .ref g), (1, .ref h), (0, .ref b)]) (K : ∀ (tf : Nat → Int32) (ff : Nat → Int64) (cw : Int32) (td : Int32) (an : Bool) (qb : Int32) (pa : Bool) (cd : Int32) (ct : Int32) (tg : Nat → Int32) (fg : Nat → Int64) (tE : Int32) (aE : Bool) (qE : Int32) (pE : Bool) (aT : Int32) (aF : Int64) (dg : Int64) (fi : Int32) (lo : Bool) (fo : Nat → Int64) (H : Heap) (locs : List Loc) (ls : Array Slot), INV tf ff cw td an qb pa ct tg fg tE aE qE pE → va_P D vwCl (wW h q1 q2 cA cB tf ff cw td an qb pa o cC fo g r1 r2 dA dB cd ct tg fg tE aE qE pE aT aF dg fi lo) H → va_D (fun q => s.heap.size ≤ q) (wW h q1 q2 cA cB tf ff cw td an qb pa o cC fo g r1 r2 dA dB cd ct tg fg tE aE qE pE aT aF dg fi lo) → va_S (fun q => s.heap.size ≤ q) s.heap H locs → lv_has ls 7 [(4, .int i), (3, .ref o), (2, .ref g), (1, .ref h), (0, .ref b)] → W p l e room_1 s m #[Value.ref b] below meth c H locs (cells + 6) (slots + 24) Q (F0 m 936 ls [])) : W p l e room_1 s m #[Value.ref b] below meth c H locs cells slots Q (F0 m 344 ls []) := by
  obtain ⟨hx, hb, hr, hml, hown, hts, hX, hbl, hlocks, hE, hDW, hl9, hL⟩ := C0
  have hA : ∀ q : Nat, s.heap.size ≤ q → (fun q : Nat => s.heap.size ≤ q) q := fun _ h => h
  have hbA : ¬ (fun q : Nat => s.heap.size ≤ q) b := Nat.not_le.mpr hbl
  refine lv_aload_n hx hb dL_law_344 rfl (lv_at hl 3 rfl) ?_
  refine lv_aload_n hx hb dL_law_345 rfl (lv_at hl 4 rfl) ?_
  refine lv_iload hx hb dL_law_346 (lv_at hl 0 rfl) ?_
  refine lv_iconst (v := 1) hx hb dL_law_348 (by decide) ?_
  refine lv_iadd hx hb dL_law_349 ?_
  refine va_sld hx hb hX hbl hbA hS (idx_in hi hj hL (by decide)) dL_law_350 ?_
  refine lv_aload_n hx hb dL_law_351 rfl (lv_at hl 4 rfl) ?_
  refine lv_iload hx hb dL_law_352 (lv_at hl 0 rfl) ?_
  refine lv_iconst (v := 2) hx hb dL_law_354 (by decide) ?_
  refine lv_iadd hx hb dL_law_355 ?_
  refine va_sld hx hb hX hbl hbA hS (idx_in hi hj hL (by decide)) dL_law_356 ?_
  have hKc : va_K D vwCl (tRS cA cB) s := hK.sub [0, 1] rfl
  have hPc : va_P D vwCl (cRS h q1 q2 cA cB tf ff cw td an qb pa) H := hP.sub [0, 1, 2] rfl
  have hDc : va_D (fun q => s.heap.size ≤ q) (cRS h q1 q2 cA cB tf ff cw td an qb pa) := hD.sub [0, 1, 2] (by decide) rfl
  have hFc := va_free (wc := cRS h q1 q2 cA cB tf ff cw td an qb pa) hD hS hA [0, 1, 2] rfl
  refine va_calli (vx_runSW (As := [.ref h, .int (xs (i + 1).toNatClampNeg), .int (xs (i + 2).toNatClampNeg)]) (rest := []) ⟨hx, hb, hml, hown, hts⟩ (c_L_constant l hl9 D ad h q1 q2 cA cB tf ff cw td an qb pa (xs (i + 1).toNatClampNeg) (xs (i + 2).toNatClampNeg) H.size) (vx_cwSW 3 hts gL_law_L_constant rfl rfl rfl kS_L_constant ⟨Nat.le_of_ble_eq_true rfl, Nat.le_of_ble_eq_true rfl⟩) ⟨TXB.blind MRB.blind, TXB.pre (MRB.pre hKc hPc hDc vP_nil ap_nil hE hS hFc) hDW⟩ rfl rfl hl.1 rfl (lv_room (Nat.le_of_ble_eq_true rfl)) dL_law_357 ⟨rmC (by omega), rmS (by omega)⟩) hS (fun q _ h9 => hFc q h9) hFc (fun k9 u9 t9 H1 locs1 ht hvm hw hB hz1 hk1 hS => ?_)
  obtain rfl := hw
  obtain ⟨o_tf, o_ff, hq, hP1, hD1⟩ := hB
  rw [ht] at hP1
  obtain ⟨hP, hD⟩ := va_join (wr := cOM o cC fo g r1 r2 dA dB cd ct tg fg tE aE qE pE aT aF dg fi lo) (w1 := cRS h q1 q2 cA cB o_tf o_ff cw td an qb pa) hP hD [0, 1, 2] [3, 4, 5, 6] rfl rfl (by decide) (by decide) hk1 hFc hP1 hD1
  have hP : va_P D vwCl (wW h q1 q2 cA cB o_tf o_ff cw td an qb pa o cC fo g r1 r2 dA dB cd ct tg fg tE aE qE pE aT aF dg fi lo) H1 := hP.sub [4, 5, 6, 0, 1, 2, 3] rfl
  have hD : va_D (fun q => s.heap.size ≤ q) (wW h q1 q2 cA cB o_tf o_ff cw td an qb pa o cC fo g r1 r2 dA dB cd ct tg fg tE aE qE pE aT aF dg fi lo) := hD.sub [4, 5, 6, 0, 1, 2, 3] (by decide) rfl
  refine lv_istore (lv' := [(5, .int k9), (4, .int i), (3, .ref o), (2, .ref g), (1, .ref h), (0, .ref b)]) hx hb dL_law_360 hl (by decide) rfl (fun ls hl => ?_)
  refine lv_aload_n hx hb dL_law_362 rfl (lv_at hl 3 rfl) ?_
  refine lv_aload_n hx hb dL_law_363 rfl (lv_at hl 5 rfl) ?_
  refine lv_iload hx hb dL_law_364 (lv_at hl 1 rfl) ?_
  refine lv_iconst (v := 1) hx hb dL_law_366 (by decide) ?_
  refine lv_iadd hx hb dL_law_367 ?_
  refine va_sld hx hb hX hbl hbA hS (idx_in hi hj hL (by decide)) dL_law_368 ?_
  refine lv_aload_n hx hb dL_law_369 rfl (lv_at hl 5 rfl) ?_
  refine lv_iload hx hb dL_law_370 (lv_at hl 1 rfl) ?_
  refine lv_iconst (v := 2) hx hb dL_law_372 (by decide) ?_
  refine lv_iadd hx hb dL_law_373 ?_
  refine va_sld hx hb hX hbl hbA hS (idx_in hi hj hL (by decide)) dL_law_374 ?_
  have hKm : va_K D vwCl (tRS dA dB) s := hK.sub [3, 4] rfl
  have hPm : va_P D vwCl (cMd g r1 r2 dA dB cd ct tg fg tE aE qE pE aT aF dg fi lo) H1 := hP.sub [4, 5, 6] rfl
  have hDm : va_D (fun q => s.heap.size ≤ q) (cMd g r1 r2 dA dB cd ct tg fg tE aE qE pE aT aF dg fi lo) := hD.sub [4, 5, 6] (by decide) rfl
  have hFm := va_free (wc := cMd g r1 r2 dA dB cd ct tg fg tE aE qE pE aT aF dg fi lo) hD hS hA [4, 5, 6] rfl
  refine va_callv (va_runV (As := [.int (xs (i + 1).toNatClampNeg), .int (xs (i + 2).toNatClampNeg)]) (rest := []) ⟨hx, hb, hml, hown, hts⟩ (c_X3_constant l D g r1 r2 dA dB cd ct tg fg tE aE qE pE aT aF dg fi lo (xs (i + 1).toNatClampNeg) (xs (i + 2).toNatClampNeg) H1.size) (cwV 2 hts gL_law_X3_constant rfl rfl rfl kV_X3_constant ⟨Nat.le_of_ble_eq_true rfl, Nat.le_of_ble_eq_true rfl⟩) ⟨MMB.blind, va_recv hKm hPm (ci := 2) (q0 := 0) rfl rfl, MMB.pre hKm hPm hDm⟩ rfl rfl hl.1 rfl (lv_room (Nat.le_of_ble_eq_true rfl)) dL_law_375 ⟨rmC (by omega), rmS (by omega)⟩) hS (fun q _ h9 => hFm q h9) hFm (fun u9 t9 H2 locs2 ht hvm hw hB hz1 hk1 hS => ?_)
  obtain ⟨m_cd, m_tf, m_ff, hm, hP1, hD1⟩ := hB
  rw [ht] at hP1
  obtain ⟨hP, hD⟩ := va_join (wr := cL h q1 q2 cA cB o_tf o_ff cw td an qb pa o cC fo) (w1 := cMd g r1 r2 dA dB m_cd ct m_tf m_ff tE aE qE pE aT aF dg fi lo) hP hD [4, 5, 6] [0, 1, 2, 3] rfl rfl (by decide) (by decide) hk1 hFm hP1 hD1
  have hP : va_P D vwCl (wW h q1 q2 cA cB o_tf o_ff cw td an qb pa o cC fo g r1 r2 dA dB m_cd ct m_tf m_ff tE aE qE pE aT aF dg fi lo) H2 := hP
  have hD : va_D (fun q => s.heap.size ≤ q) (wW h q1 q2 cA cB o_tf o_ff cw td an qb pa o cC fo g r1 r2 dA dB m_cd ct m_tf m_ff tE aE qE pE aT aF dg fi lo) := hD
  obtain ⟨hk9, hinv⟩ := hs tf ff cw td an qb pa cd ct tg fg tE aE qE pE aT aF dg fi lo (xs (i + 1).toNatClampNeg) (xs (i + 2).toNatClampNeg) hinv _ _ _ _ _ _ hq hm
  refine lv_aload_n hx hb dL_law_378 rfl (lv_at hl 3 rfl) ?_
  have hPm : va_P D vwCl (cMd g r1 r2 dA dB m_cd ct m_tf m_ff tE aE qE pE aT aF dg fi lo) H2 := hP.sub [4, 5, 6] rfl
  refine vp_callSi (va_cr (va_runV (As := []) (rest := []) ⟨hx, hb, hml, hown, hts⟩ (c_X3_thrown l D g r1 r2 dA dB m_cd ct m_tf m_ff tE aE qE pE aT aF dg fi lo) (cwV 0 hts gL_law_X3_thrown rfl rfl rfl kV_X3_thrown ⟨Nat.le_of_ble_eq_true rfl, Nat.le_of_ble_eq_true rfl⟩) ⟨PB.blind, va_recv hKm hPm (ci := 2) (q0 := 0) rfl rfl, PB.pre hKm hPm⟩ rfl rfl hl.1 rfl (lv_room (Nat.le_of_ble_eq_true rfl)) dL_law_379 ⟨rmC (by omega), rmS (by omega)⟩)) (fun r9 e9 => ?_)
  rw [e9]
  refine lv_iload hx hb dL_law_382 (lv_at hl 0 rfl) ?_
  refine lv_icmp_eq (tgt := 389) hx hb dL_law_384 (by decide) (fun c_2 => ?_) (fun c_2 => absurd hk9 c_2)
  refine lv_goto (tgt := 936) hx hb dL_law_389 (by decide) ?_
  refine W.widen (k := cells + 6) (n := slots + 24) (by omega) (by omega) ?_
  exact K _ _ _ _ _ _ _ _ _ _ _ _ _ _ _ _ _ _ _ _ _ _ _ _ hinv hP hD hS (lv_sub hl [1, 2, 3, 4, 5] rfl)
set_option maxHeartbeats 4000000 in
set_option maxRecDepth 100000 in
theorem law_whole {p : Program} {l : Launch} {e : Env} {s : State} {m : MethodId} {below : List Frame} {meth : Method} {c : Code} {b L : Nat} {xs : Nat → Int32} {Q : State → Prop} {D : va_G} {ad : Nat → Nat} (hs : S_whole) (C0 : LC p l s m meth c b L xs ad) {j : Nat} {i : Int32} (hi : i.toInt = 5 * (j : Int)) (hj : 5 * j + 5 ≤ L) {cells slots : Nat} (hc6 : cells + 6 ≤ 710647) (hs24 : slots + 24 ≤ 6964162) {h q1 q2 g r1 r2 o : Nat} {cA cB cC dA dB : ClassId} (tf : Nat → Int32) (ff : Nat → Int64) (cw : Int32) (td : Int32) (an : Bool) (qb : Int32) (pa : Bool) (cd : Int32) (ct : Int32) (tg : Nat → Int32) (fg : Nat → Int64) (tE : Int32) (aE : Bool) (qE : Int32) (pE : Bool) (aT : Int32) (aF : Int64) (dg : Int64) (fi : Int32) (lo : Bool) (fo : Nat → Int64) (hinv : INV tf ff cw td an qb pa ct tg fg tE aE qE pE) {H : Heap} {locs : List Loc} (hK : va_K D vwCl (tW cA cB cC dA dB) s) (hP : va_P D vwCl (wW h q1 q2 cA cB tf ff cw td an qb pa o cC fo g r1 r2 dA dB cd ct tg fg tE aE qE pE aT aF dg fi lo) H) (hD : va_D (fun q => s.heap.size ≤ q) (wW h q1 q2 cA cB tf ff cw td an qb pa o cC fo g r1 r2 dA dB cd ct tg fg tE aE qE pE aT aF dg fi lo)) (hS : va_S (fun q => s.heap.size ≤ q) s.heap H locs) {ls : Array Slot} (hl : lv_has ls 7 [(4, .int i), (3, .ref o), (2, .ref g), (1, .ref h), (0, .ref b)]) (K : ∀ (tf : Nat → Int32) (ff : Nat → Int64) (cw : Int32) (td : Int32) (an : Bool) (qb : Int32) (pa : Bool) (cd : Int32) (ct : Int32) (tg : Nat → Int32) (fg : Nat → Int64) (tE : Int32) (aE : Bool) (qE : Int32) (pE : Bool) (aT : Int32) (aF : Int64) (dg : Int64) (fi : Int32) (lo : Bool) (fo : Nat → Int64) (H : Heap) (locs : List Loc) (ls : Array Slot), INV tf ff cw td an qb pa ct tg fg tE aE qE pE → va_P D vwCl (wW h q1 q2 cA cB tf ff cw td an qb pa o cC fo g r1 r2 dA dB cd ct tg fg tE aE qE pE aT aF dg fi lo) H → va_D (fun q => s.heap.size ≤ q) (wW h q1 q2 cA cB tf ff cw td an qb pa o cC fo g r1 r2 dA dB cd ct tg fg tE aE qE pE aT aF dg fi lo) → va_S (fun q => s.heap.size ≤ q) s.heap H locs → lv_has ls 7 [(4, .int i), (3, .ref o), (2, .ref g), (1, .ref h), (0, .ref b)] → W p l e room_1 s m #[Value.ref b] below meth c H locs (cells + 6) (slots + 24) Q (F0 m 936 ls [])) : W p l e room_1 s m #[Value.ref b] below meth c H locs cells slots Q (F0 m 392 ls []) := by
  obtain ⟨hx, hb, hr, hml, hown, hts, hX, hbl, hlocks, hE, hDW, hl9, hL⟩ := C0
  have hA : ∀ q : Nat, s.heap.size ≤ q → (fun q : Nat => s.heap.size ≤ q) q := fun _ h => h
  have hbA : ¬ (fun q : Nat => s.heap.size ≤ q) b := Nat.not_le.mpr hbl
  refine lv_aload_n hx hb dL_law_392 rfl (lv_at hl 3 rfl) ?_
  refine lv_aload_n hx hb dL_law_393 rfl (lv_at hl 4 rfl) ?_
  refine lv_iload hx hb dL_law_394 (lv_at hl 0 rfl) ?_
  refine lv_iconst (v := 1) hx hb dL_law_396 (by decide) ?_
  refine lv_iadd hx hb dL_law_397 ?_
  refine va_sld hx hb hX hbl hbA hS (idx_in hi hj hL (by decide)) dL_law_398 ?_
  refine lv_aload_n hx hb dL_law_399 rfl (lv_at hl 4 rfl) ?_
  refine lv_iload hx hb dL_law_400 (lv_at hl 0 rfl) ?_
  refine lv_iconst (v := 2) hx hb dL_law_402 (by decide) ?_
  refine lv_iadd hx hb dL_law_403 ?_
  refine va_sld hx hb hX hbl hbA hS (idx_in hi hj hL (by decide)) dL_law_404 ?_
  refine lv_aload_n hx hb dL_law_405 rfl (lv_at hl 1 rfl) ?_
  have hKc : va_K D vwCl (tL cA cB cC) s := hK.sub [0, 1, 2] rfl
  have hPc : va_P D vwCl (cL h q1 q2 cA cB tf ff cw td an qb pa o cC fo) H := hP.sub [0, 1, 2, 3] rfl
  have hDc : va_D (fun q => s.heap.size ≤ q) (cL h q1 q2 cA cB tf ff cw td an qb pa o cC fo) := hD.sub [0, 1, 2, 3] (by decide) rfl
  have hFc := va_free (wc := cL h q1 q2 cA cB tf ff cw td an qb pa o cC fo) hD hS hA [0, 1, 2, 3] rfl
  refine va_calli (vx_runSW (As := [.ref h, .int (xs (i + 1).toNatClampNeg), .int (xs (i + 2).toNatClampNeg), .ref o]) (rest := []) ⟨hx, hb, hml, hown, hts⟩ (c_L_whole l hl9 D ad h q1 q2 cA cB tf ff cw td an qb pa o cC fo (xs (i + 1).toNatClampNeg) (xs (i + 2).toNatClampNeg) H.size) (vx_cwSW 4 hts gL_law_L_whole rfl rfl rfl kS_L_whole ⟨Nat.le_of_ble_eq_true rfl, Nat.le_of_ble_eq_true rfl⟩) ⟨TXB.blind MRB.blind, TXB.pre (MRB.pre hKc hPc hDc vP_nil ap_nil hE hS hFc) hDW⟩ rfl rfl hl.1 rfl (lv_room (Nat.le_of_ble_eq_true rfl)) dL_law_406 ⟨rmC (by omega), rmS (by omega)⟩) hS (fun q _ h9 => hFc q h9) hFc (fun k9 u9 t9 H1 locs1 ht hvm hw hB hz1 hk1 hS => ?_)
  obtain rfl := hw
  obtain ⟨v9, o_tf, o_ff, o_td, o_an, fo9, hq, hfo, hP1, hD1⟩ := hB
  rw [ht] at hP1
  obtain ⟨hP, hD⟩ := va_join (wr := cMd g r1 r2 dA dB cd ct tg fg tE aE qE pE aT aF dg fi lo) (w1 := cL h q1 q2 cA cB o_tf o_ff cw o_td o_an qb pa o cC fo9) hP hD [0, 1, 2, 3] [4, 5, 6] rfl rfl (by decide) (by decide) hk1 hFc hP1 hD1
  have hP : va_P D vwCl (wW h q1 q2 cA cB o_tf o_ff cw o_td o_an qb pa o cC fo9 g r1 r2 dA dB cd ct tg fg tE aE qE pE aT aF dg fi lo) H1 := hP.sub [3, 4, 5, 6, 0, 1, 2] rfl
  have hD : va_D (fun q => s.heap.size ≤ q) (wW h q1 q2 cA cB o_tf o_ff cw o_td o_an qb pa o cC fo9 g r1 r2 dA dB cd ct tg fg tE aE qE pE aT aF dg fi lo) := hD.sub [3, 4, 5, 6, 0, 1, 2] (by decide) rfl
  refine lv_istore (lv' := [(5, .int k9), (4, .int i), (3, .ref o), (2, .ref g), (1, .ref h), (0, .ref b)]) hx hb dL_law_409 hl (by decide) rfl (fun ls hl => ?_)
  refine lv_aload_n hx hb dL_law_411 rfl (lv_at hl 3 rfl) ?_
  refine lv_aload_n hx hb dL_law_412 rfl (lv_at hl 5 rfl) ?_
  refine lv_iload hx hb dL_law_413 (lv_at hl 1 rfl) ?_
  refine lv_iconst (v := 1) hx hb dL_law_415 (by decide) ?_
  refine lv_iadd hx hb dL_law_416 ?_
  refine va_sld hx hb hX hbl hbA hS (idx_in hi hj hL (by decide)) dL_law_417 ?_
  refine lv_aload_n hx hb dL_law_418 rfl (lv_at hl 5 rfl) ?_
  refine lv_iload hx hb dL_law_419 (lv_at hl 1 rfl) ?_
  refine lv_iconst (v := 2) hx hb dL_law_421 (by decide) ?_
  refine lv_iadd hx hb dL_law_422 ?_
  refine va_sld hx hb hX hbl hbA hS (idx_in hi hj hL (by decide)) dL_law_423 ?_
  have hKm : va_K D vwCl (tRS dA dB) s := hK.sub [3, 4] rfl
  have hPm : va_P D vwCl (cMd g r1 r2 dA dB cd ct tg fg tE aE qE pE aT aF dg fi lo) H1 := hP.sub [4, 5, 6] rfl
  have hDm : va_D (fun q => s.heap.size ≤ q) (cMd g r1 r2 dA dB cd ct tg fg tE aE qE pE aT aF dg fi lo) := hD.sub [4, 5, 6] (by decide) rfl
  have hFm := va_free (wc := cMd g r1 r2 dA dB cd ct tg fg tE aE qE pE aT aF dg fi lo) hD hS hA [4, 5, 6] rfl
  refine va_calli (va_runV (As := [.int (xs (i + 1).toNatClampNeg), .int (xs (i + 2).toNatClampNeg)]) (rest := []) ⟨hx, hb, hml, hown, hts⟩ (c_X3_whole l D g r1 r2 dA dB cd ct tg fg tE aE qE pE aT aF dg fi lo (xs (i + 1).toNatClampNeg) (xs (i + 2).toNatClampNeg) H1.size) (cwV 2 hts gL_law_X3_whole rfl rfl rfl kV_X3_whole ⟨Nat.le_of_ble_eq_true rfl, Nat.le_of_ble_eq_true rfl⟩) ⟨MMB.blind, va_recv hKm hPm (ci := 2) (q0 := 0) rfl rfl, MMB.pre hKm hPm hDm⟩ rfl rfl hl.1 rfl (lv_room (Nat.le_of_ble_eq_true rfl)) dL_law_424 ⟨rmC (by omega), rmS (by omega)⟩) hS (fun q _ h9 => hFm q h9) hFm (fun b9 u9 t9 H2 locs2 ht hvm hw hB hz1 hk1 hS => ?_)
  obtain rfl := hw
  obtain ⟨m_cd, m_tf, m_ff, m_td, m_an, m_aT, m_aF, m_lo, hm, hP1, hD1⟩ := hB
  rw [ht] at hP1
  obtain ⟨hP, hD⟩ := va_join (wr := cL h q1 q2 cA cB o_tf o_ff cw o_td o_an qb pa o cC fo9) (w1 := cMd g r1 r2 dA dB m_cd ct m_tf m_ff m_td m_an qE pE m_aT m_aF dg fi m_lo) hP hD [4, 5, 6] [0, 1, 2, 3] rfl rfl (by decide) (by decide) hk1 hFm hP1 hD1
  have hP : va_P D vwCl (wW h q1 q2 cA cB o_tf o_ff cw o_td o_an qb pa o cC fo9 g r1 r2 dA dB m_cd ct m_tf m_ff m_td m_an qE pE m_aT m_aF dg fi m_lo) H2 := hP
  have hD : va_D (fun q => s.heap.size ≤ q) (wW h q1 q2 cA cB o_tf o_ff cw o_td o_an qb pa o cC fo9 g r1 r2 dA dB m_cd ct m_tf m_ff m_td m_an qE pE m_aT m_aF dg fi m_lo) := hD
  obtain ⟨hk9, hv9, hinv⟩ := hs tf ff cw td an qb pa cd ct tg fg tE aE qE pE aT aF dg fi lo (xs (i + 1).toNatClampNeg) (xs (i + 2).toNatClampNeg) hinv _ _ _ _ _ _ _ _ _ _ _ _ _ _ _ hq hm
  refine lv_istore (lv' := [(6, .int b9), (5, .int k9), (4, .int i), (3, .ref o), (2, .ref g), (1, .ref h), (0, .ref b)]) hx hb dL_law_427 hl (by decide) rfl (fun ls hl => ?_)
  refine lv_aload_n hx hb dL_law_429 rfl (lv_at hl 4 rfl) ?_
  have hPm : va_P D vwCl (cMd g r1 r2 dA dB m_cd ct m_tf m_ff m_td m_an qE pE m_aT m_aF dg fi m_lo) H2 := hP.sub [4, 5, 6] rfl
  refine vp_callSi (va_cr (va_runV (As := []) (rest := []) ⟨hx, hb, hml, hown, hts⟩ (c_X3_thrown l D g r1 r2 dA dB m_cd ct m_tf m_ff m_td m_an qE pE m_aT m_aF dg fi m_lo) (cwV 0 hts gL_law_X3_thrown rfl rfl rfl kV_X3_thrown ⟨Nat.le_of_ble_eq_true rfl, Nat.le_of_ble_eq_true rfl⟩) ⟨PB.blind, va_recv hKm hPm (ci := 2) (q0 := 0) rfl rfl, PB.pre hKm hPm⟩ rfl rfl hl.1 rfl (lv_room (Nat.le_of_ble_eq_true rfl)) dL_law_430 ⟨rmC (by omega), rmS (by omega)⟩)) (fun r9 e9 => ?_)
  rw [e9]
  refine lv_iload hx hb dL_law_433 (lv_at hl 1 rfl) ?_
  refine lv_icmp_eq (tgt := 440) hx hb dL_law_435 (by decide) (fun c_2 => ?_) (fun c_2 => absurd hk9 c_2)
  refine lv_iload hx hb dL_law_440 (lv_at hl 1 rfl) ?_
  refine lv_if_ne (tgt := 457) hx hb dL_law_442 (by decide) (fun c_3 => ?_) (fun c_3 => ?_)
  · refine lv_goto (tgt := 936) hx hb dL_law_457 (by decide) ?_
    refine W.widen (k := cells + 6) (n := slots + 24) (by omega) (by omega) ?_
    exact K _ _ _ _ _ _ _ _ _ _ _ _ _ _ _ _ _ _ _ _ _ _ _ _ hinv hP hD hS (lv_sub hl [2, 3, 4, 5, 6] rfl)
  · refine lv_aload_n hx hb dL_law_445 rfl (lv_at hl 3 rfl) ?_
    refine lv_iconst (v := 0) hx hb dL_law_446 (by decide) ?_
    refine va_lald hx hb hK hP 3 2 rfl rfl in_01 dL_law_447 ?_
    refine lv_iload hx hb dL_law_448 (lv_at hl 0 rfl) ?_
    refine lv_i2l (v := b9.toInt64) hx hb dL_law_450 rfl ?_
    refine q_cl_eq (tgt := 457) hx hb dL_law_451 dL_law_452 (by decide) (fun c_4 => ?_) (fun c_4 => absurd ((hfo c_3).trans (congrArg Int32.toInt64 (hv9 c_3))) c_4)
    refine lv_goto (tgt := 936) hx hb dL_law_457 (by decide) ?_
    refine W.widen (k := cells + 6) (n := slots + 24) (by omega) (by omega) ?_
    exact K _ _ _ _ _ _ _ _ _ _ _ _ _ _ _ _ _ _ _ _ _ _ _ _ hinv hP hD hS (lv_sub hl [2, 3, 4, 5, 6] rfl)
set_option maxHeartbeats 4000000 in
set_option maxRecDepth 100000 in
theorem law_scale {p : Program} {l : Launch} {e : Env} {s : State} {m : MethodId} {below : List Frame} {meth : Method} {c : Code} {b L : Nat} {xs : Nat → Int32} {Q : State → Prop} {D : va_G} {ad : Nat → Nat} (hs : S_scale) (C0 : LC p l s m meth c b L xs ad) {j : Nat} {i : Int32} (hi : i.toInt = 5 * (j : Int)) (hj : 5 * j + 5 ≤ L) {cells slots : Nat} (hc6 : cells + 6 ≤ 710647) (hs24 : slots + 24 ≤ 6964162) {h q1 q2 g r1 r2 o : Nat} {cA cB cC dA dB : ClassId} (tf : Nat → Int32) (ff : Nat → Int64) (cw : Int32) (td : Int32) (an : Bool) (qb : Int32) (pa : Bool) (cd : Int32) (ct : Int32) (tg : Nat → Int32) (fg : Nat → Int64) (tE : Int32) (aE : Bool) (qE : Int32) (pE : Bool) (aT : Int32) (aF : Int64) (dg : Int64) (fi : Int32) (lo : Bool) (fo : Nat → Int64) (hinv : INV tf ff cw td an qb pa ct tg fg tE aE qE pE) {H : Heap} {locs : List Loc} (hK : va_K D vwCl (tW cA cB cC dA dB) s) (hP : va_P D vwCl (wW h q1 q2 cA cB tf ff cw td an qb pa o cC fo g r1 r2 dA dB cd ct tg fg tE aE qE pE aT aF dg fi lo) H) (hD : va_D (fun q => s.heap.size ≤ q) (wW h q1 q2 cA cB tf ff cw td an qb pa o cC fo g r1 r2 dA dB cd ct tg fg tE aE qE pE aT aF dg fi lo)) (hS : va_S (fun q => s.heap.size ≤ q) s.heap H locs) {ls : Array Slot} (hl : lv_has ls 7 [(4, .int i), (3, .ref o), (2, .ref g), (1, .ref h), (0, .ref b)]) (K : ∀ (tf : Nat → Int32) (ff : Nat → Int64) (cw : Int32) (td : Int32) (an : Bool) (qb : Int32) (pa : Bool) (cd : Int32) (ct : Int32) (tg : Nat → Int32) (fg : Nat → Int64) (tE : Int32) (aE : Bool) (qE : Int32) (pE : Bool) (aT : Int32) (aF : Int64) (dg : Int64) (fi : Int32) (lo : Bool) (fo : Nat → Int64) (H : Heap) (locs : List Loc) (ls : Array Slot), INV tf ff cw td an qb pa ct tg fg tE aE qE pE → va_P D vwCl (wW h q1 q2 cA cB tf ff cw td an qb pa o cC fo g r1 r2 dA dB cd ct tg fg tE aE qE pE aT aF dg fi lo) H → va_D (fun q => s.heap.size ≤ q) (wW h q1 q2 cA cB tf ff cw td an qb pa o cC fo g r1 r2 dA dB cd ct tg fg tE aE qE pE aT aF dg fi lo) → va_S (fun q => s.heap.size ≤ q) s.heap H locs → lv_has ls 7 [(4, .int i), (3, .ref o), (2, .ref g), (1, .ref h), (0, .ref b)] → W p l e room_1 s m #[Value.ref b] below meth c H locs (cells + 6) (slots + 24) Q (F0 m 936 ls [])) : W p l e room_1 s m #[Value.ref b] below meth c H locs cells slots Q (F0 m 460 ls []) := by
  obtain ⟨hx, hb, hr, hml, hown, hts, hX, hbl, hlocks, hE, hDW, hl9, hL⟩ := C0
  have hA : ∀ q : Nat, s.heap.size ≤ q → (fun q : Nat => s.heap.size ≤ q) q := fun _ h => h
  have hbA : ¬ (fun q : Nat => s.heap.size ≤ q) b := Nat.not_le.mpr hbl
  refine lv_aload_n hx hb dL_law_460 rfl (lv_at hl 3 rfl) ?_
  refine lv_aload_n hx hb dL_law_461 rfl (lv_at hl 4 rfl) ?_
  refine lv_iload hx hb dL_law_462 (lv_at hl 0 rfl) ?_
  refine lv_iconst (v := 1) hx hb dL_law_464 (by decide) ?_
  refine lv_iadd hx hb dL_law_465 ?_
  refine va_sld hx hb hX hbl hbA hS (idx_in hi hj hL (by decide)) dL_law_466 ?_
  refine lv_aload_n hx hb dL_law_467 rfl (lv_at hl 4 rfl) ?_
  refine lv_iload hx hb dL_law_468 (lv_at hl 0 rfl) ?_
  refine lv_iconst (v := 2) hx hb dL_law_470 (by decide) ?_
  refine lv_iadd hx hb dL_law_471 ?_
  refine va_sld hx hb hX hbl hbA hS (idx_in hi hj hL (by decide)) dL_law_472 ?_
  refine lv_aload_n hx hb dL_law_473 rfl (lv_at hl 4 rfl) ?_
  refine lv_iload hx hb dL_law_474 (lv_at hl 0 rfl) ?_
  refine lv_iconst (v := 3) hx hb dL_law_476 (by decide) ?_
  refine lv_iadd hx hb dL_law_477 ?_
  refine va_sld hx hb hX hbl hbA hS (idx_in hi hj hL (by decide)) dL_law_478 ?_
  refine lv_aload_n hx hb dL_law_479 rfl (lv_at hl 1 rfl) ?_
  have hKc : va_K D vwCl (tL cA cB cC) s := hK.sub [0, 1, 2] rfl
  have hPc : va_P D vwCl (cL h q1 q2 cA cB tf ff cw td an qb pa o cC fo) H := hP.sub [0, 1, 2, 3] rfl
  have hDc : va_D (fun q => s.heap.size ≤ q) (cL h q1 q2 cA cB tf ff cw td an qb pa o cC fo) := hD.sub [0, 1, 2, 3] (by decide) rfl
  have hFc := va_free (wc := cL h q1 q2 cA cB tf ff cw td an qb pa o cC fo) hD hS hA [0, 1, 2, 3] rfl
  refine va_calli (vx_runSW (As := [.ref h, .int (xs (i + 1).toNatClampNeg), .int (xs (i + 2).toNatClampNeg), .int (xs (i + 3).toNatClampNeg), .ref o]) (rest := []) ⟨hx, hb, hml, hown, hts⟩ (c_L_scale l hl9 D ad h q1 q2 cA cB tf ff cw td an qb pa o cC fo (xs (i + 1).toNatClampNeg) (xs (i + 2).toNatClampNeg) (xs (i + 3).toNatClampNeg) H.size) (vx_cwSW 5 hts gL_law_L_scale rfl rfl rfl kS_L_scale ⟨Nat.le_of_ble_eq_true rfl, Nat.le_of_ble_eq_true rfl⟩) ⟨TXB.blind MRB.blind, TXB.pre (MRB.pre hKc hPc hDc vP_nil ap_nil hE hS hFc) hDW⟩ rfl rfl hl.1 rfl (lv_room (Nat.le_of_ble_eq_true rfl)) dL_law_480 ⟨rmC (by omega), rmS (by omega)⟩) hS (fun q _ h9 => hFc q h9) hFc (fun k9 u9 t9 H1 locs1 ht hvm hw hB hz1 hk1 hS => ?_)
  obtain rfl := hw
  obtain ⟨v9, o_tf, o_ff, o_td, o_an, fo9, hq, hfo, hP1, hD1⟩ := hB
  rw [ht] at hP1
  obtain ⟨hP, hD⟩ := va_join (wr := cMd g r1 r2 dA dB cd ct tg fg tE aE qE pE aT aF dg fi lo) (w1 := cL h q1 q2 cA cB o_tf o_ff cw o_td o_an qb pa o cC fo9) hP hD [0, 1, 2, 3] [4, 5, 6] rfl rfl (by decide) (by decide) hk1 hFc hP1 hD1
  have hP : va_P D vwCl (wW h q1 q2 cA cB o_tf o_ff cw o_td o_an qb pa o cC fo9 g r1 r2 dA dB cd ct tg fg tE aE qE pE aT aF dg fi lo) H1 := hP.sub [3, 4, 5, 6, 0, 1, 2] rfl
  have hD : va_D (fun q => s.heap.size ≤ q) (wW h q1 q2 cA cB o_tf o_ff cw o_td o_an qb pa o cC fo9 g r1 r2 dA dB cd ct tg fg tE aE qE pE aT aF dg fi lo) := hD.sub [3, 4, 5, 6, 0, 1, 2] (by decide) rfl
  refine lv_istore (lv' := [(5, .int k9), (4, .int i), (3, .ref o), (2, .ref g), (1, .ref h), (0, .ref b)]) hx hb dL_law_483 hl (by decide) rfl (fun ls hl => ?_)
  refine lv_aload_n hx hb dL_law_485 rfl (lv_at hl 3 rfl) ?_
  refine lv_aload_n hx hb dL_law_486 rfl (lv_at hl 5 rfl) ?_
  refine lv_iload hx hb dL_law_487 (lv_at hl 1 rfl) ?_
  refine lv_iconst (v := 1) hx hb dL_law_489 (by decide) ?_
  refine lv_iadd hx hb dL_law_490 ?_
  refine va_sld hx hb hX hbl hbA hS (idx_in hi hj hL (by decide)) dL_law_491 ?_
  refine lv_aload_n hx hb dL_law_492 rfl (lv_at hl 5 rfl) ?_
  refine lv_iload hx hb dL_law_493 (lv_at hl 1 rfl) ?_
  refine lv_iconst (v := 2) hx hb dL_law_495 (by decide) ?_
  refine lv_iadd hx hb dL_law_496 ?_
  refine va_sld hx hb hX hbl hbA hS (idx_in hi hj hL (by decide)) dL_law_497 ?_
  refine lv_aload_n hx hb dL_law_498 rfl (lv_at hl 5 rfl) ?_
  refine lv_iload hx hb dL_law_499 (lv_at hl 1 rfl) ?_
  refine lv_iconst (v := 3) hx hb dL_law_501 (by decide) ?_
  refine lv_iadd hx hb dL_law_502 ?_
  refine va_sld hx hb hX hbl hbA hS (idx_in hi hj hL (by decide)) dL_law_503 ?_
  have hKm : va_K D vwCl (tRS dA dB) s := hK.sub [3, 4] rfl
  have hPm : va_P D vwCl (cMd g r1 r2 dA dB cd ct tg fg tE aE qE pE aT aF dg fi lo) H1 := hP.sub [4, 5, 6] rfl
  have hDm : va_D (fun q => s.heap.size ≤ q) (cMd g r1 r2 dA dB cd ct tg fg tE aE qE pE aT aF dg fi lo) := hD.sub [4, 5, 6] (by decide) rfl
  have hFm := va_free (wc := cMd g r1 r2 dA dB cd ct tg fg tE aE qE pE aT aF dg fi lo) hD hS hA [4, 5, 6] rfl
  refine va_calli (va_runV (As := [.int (xs (i + 1).toNatClampNeg), .int (xs (i + 2).toNatClampNeg), .int (xs (i + 3).toNatClampNeg)]) (rest := []) ⟨hx, hb, hml, hown, hts⟩ (c_X3_scale l D g r1 r2 dA dB cd ct tg fg tE aE qE pE aT aF dg fi lo (xs (i + 1).toNatClampNeg) (xs (i + 2).toNatClampNeg) (xs (i + 3).toNatClampNeg) H1.size) (cwV 3 hts gL_law_X3_scale rfl rfl rfl kV_X3_scale ⟨Nat.le_of_ble_eq_true rfl, Nat.le_of_ble_eq_true rfl⟩) ⟨MMB.blind, va_recv hKm hPm (ci := 2) (q0 := 0) rfl rfl, MMB.pre hKm hPm hDm⟩ rfl rfl hl.1 rfl (lv_room (Nat.le_of_ble_eq_true rfl)) dL_law_504 ⟨rmC (by omega), rmS (by omega)⟩) hS (fun q _ h9 => hFm q h9) hFm (fun b9 u9 t9 H2 locs2 ht hvm hw hB hz1 hk1 hS => ?_)
  obtain rfl := hw
  obtain ⟨m_cd, m_tf, m_ff, m_td, m_an, m_aT, m_aF, m_dg, m_fi, m_lo, hm, hP1, hD1⟩ := hB
  rw [ht] at hP1
  obtain ⟨hP, hD⟩ := va_join (wr := cL h q1 q2 cA cB o_tf o_ff cw o_td o_an qb pa o cC fo9) (w1 := cMd g r1 r2 dA dB m_cd ct m_tf m_ff m_td m_an qE pE m_aT m_aF m_dg m_fi m_lo) hP hD [4, 5, 6] [0, 1, 2, 3] rfl rfl (by decide) (by decide) hk1 hFm hP1 hD1
  have hP : va_P D vwCl (wW h q1 q2 cA cB o_tf o_ff cw o_td o_an qb pa o cC fo9 g r1 r2 dA dB m_cd ct m_tf m_ff m_td m_an qE pE m_aT m_aF m_dg m_fi m_lo) H2 := hP
  have hD : va_D (fun q => s.heap.size ≤ q) (wW h q1 q2 cA cB o_tf o_ff cw o_td o_an qb pa o cC fo9 g r1 r2 dA dB m_cd ct m_tf m_ff m_td m_an qE pE m_aT m_aF m_dg m_fi m_lo) := hD
  obtain ⟨hk9, hv9, hinv⟩ := hs tf ff cw td an qb pa cd ct tg fg tE aE qE pE aT aF dg fi lo (xs (i + 1).toNatClampNeg) (xs (i + 2).toNatClampNeg) (xs (i + 3).toNatClampNeg) hinv _ _ _ _ _ _ _ _ _ _ _ _ _ _ _ _ _ hq hm
  refine lv_istore (lv' := [(6, .int b9), (5, .int k9), (4, .int i), (3, .ref o), (2, .ref g), (1, .ref h), (0, .ref b)]) hx hb dL_law_507 hl (by decide) rfl (fun ls hl => ?_)
  refine lv_aload_n hx hb dL_law_509 rfl (lv_at hl 4 rfl) ?_
  have hPm : va_P D vwCl (cMd g r1 r2 dA dB m_cd ct m_tf m_ff m_td m_an qE pE m_aT m_aF m_dg m_fi m_lo) H2 := hP.sub [4, 5, 6] rfl
  refine vp_callSi (va_cr (va_runV (As := []) (rest := []) ⟨hx, hb, hml, hown, hts⟩ (c_X3_thrown l D g r1 r2 dA dB m_cd ct m_tf m_ff m_td m_an qE pE m_aT m_aF m_dg m_fi m_lo) (cwV 0 hts gL_law_X3_thrown rfl rfl rfl kV_X3_thrown ⟨Nat.le_of_ble_eq_true rfl, Nat.le_of_ble_eq_true rfl⟩) ⟨PB.blind, va_recv hKm hPm (ci := 2) (q0 := 0) rfl rfl, PB.pre hKm hPm⟩ rfl rfl hl.1 rfl (lv_room (Nat.le_of_ble_eq_true rfl)) dL_law_510 ⟨rmC (by omega), rmS (by omega)⟩)) (fun r9 e9 => ?_)
  rw [e9]
  refine lv_iload hx hb dL_law_513 (lv_at hl 1 rfl) ?_
  refine lv_icmp_eq (tgt := 520) hx hb dL_law_515 (by decide) (fun c_2 => ?_) (fun c_2 => absurd hk9 c_2)
  refine lv_iload hx hb dL_law_520 (lv_at hl 1 rfl) ?_
  refine lv_if_ne (tgt := 537) hx hb dL_law_522 (by decide) (fun c_3 => ?_) (fun c_3 => ?_)
  · refine lv_goto (tgt := 936) hx hb dL_law_537 (by decide) ?_
    refine W.widen (k := cells + 6) (n := slots + 24) (by omega) (by omega) ?_
    exact K _ _ _ _ _ _ _ _ _ _ _ _ _ _ _ _ _ _ _ _ _ _ _ _ hinv hP hD hS (lv_sub hl [2, 3, 4, 5, 6] rfl)
  · refine lv_aload_n hx hb dL_law_525 rfl (lv_at hl 3 rfl) ?_
    refine lv_iconst (v := 0) hx hb dL_law_526 (by decide) ?_
    refine va_lald hx hb hK hP 3 2 rfl rfl in_01 dL_law_527 ?_
    refine lv_iload hx hb dL_law_528 (lv_at hl 0 rfl) ?_
    refine lv_i2l (v := b9.toInt64) hx hb dL_law_530 rfl ?_
    refine q_cl_eq (tgt := 537) hx hb dL_law_531 dL_law_532 (by decide) (fun c_4 => ?_) (fun c_4 => absurd ((hfo c_3).trans (congrArg Int32.toInt64 (hv9 c_3))) c_4)
    refine lv_goto (tgt := 936) hx hb dL_law_537 (by decide) ?_
    refine W.widen (k := cells + 6) (n := slots + 24) (by omega) (by omega) ?_
    exact K _ _ _ _ _ _ _ _ _ _ _ _ _ _ _ _ _ _ _ _ _ _ _ _ hinv hP hD hS (lv_sub hl [2, 3, 4, 5, 6] rfl)
set_option maxHeartbeats 4000000 in
set_option maxRecDepth 100000 in
theorem law_extract {p : Program} {l : Launch} {e : Env} {s : State} {m : MethodId} {below : List Frame} {meth : Method} {c : Code} {b L : Nat} {xs : Nat → Int32} {Q : State → Prop} {D : va_G} {ad : Nat → Nat} (hs : S_extract) (C0 : LC p l s m meth c b L xs ad) {j : Nat} {i : Int32} (hi : i.toInt = 5 * (j : Int)) (hj : 5 * j + 5 ≤ L) {cells slots : Nat} (hc6 : cells + 6 ≤ 710647) (hs24 : slots + 24 ≤ 6964162) {h q1 q2 g r1 r2 o : Nat} {cA cB cC dA dB : ClassId} (tf : Nat → Int32) (ff : Nat → Int64) (cw : Int32) (td : Int32) (an : Bool) (qb : Int32) (pa : Bool) (cd : Int32) (ct : Int32) (tg : Nat → Int32) (fg : Nat → Int64) (tE : Int32) (aE : Bool) (qE : Int32) (pE : Bool) (aT : Int32) (aF : Int64) (dg : Int64) (fi : Int32) (lo : Bool) (fo : Nat → Int64) (hinv : INV tf ff cw td an qb pa ct tg fg tE aE qE pE) {H : Heap} {locs : List Loc} (hK : va_K D vwCl (tW cA cB cC dA dB) s) (hP : va_P D vwCl (wW h q1 q2 cA cB tf ff cw td an qb pa o cC fo g r1 r2 dA dB cd ct tg fg tE aE qE pE aT aF dg fi lo) H) (hD : va_D (fun q => s.heap.size ≤ q) (wW h q1 q2 cA cB tf ff cw td an qb pa o cC fo g r1 r2 dA dB cd ct tg fg tE aE qE pE aT aF dg fi lo)) (hS : va_S (fun q => s.heap.size ≤ q) s.heap H locs) {ls : Array Slot} (hl : lv_has ls 7 [(4, .int i), (3, .ref o), (2, .ref g), (1, .ref h), (0, .ref b)]) (K : ∀ (tf : Nat → Int32) (ff : Nat → Int64) (cw : Int32) (td : Int32) (an : Bool) (qb : Int32) (pa : Bool) (cd : Int32) (ct : Int32) (tg : Nat → Int32) (fg : Nat → Int64) (tE : Int32) (aE : Bool) (qE : Int32) (pE : Bool) (aT : Int32) (aF : Int64) (dg : Int64) (fi : Int32) (lo : Bool) (fo : Nat → Int64) (H : Heap) (locs : List Loc) (ls : Array Slot), INV tf ff cw td an qb pa ct tg fg tE aE qE pE → va_P D vwCl (wW h q1 q2 cA cB tf ff cw td an qb pa o cC fo g r1 r2 dA dB cd ct tg fg tE aE qE pE aT aF dg fi lo) H → va_D (fun q => s.heap.size ≤ q) (wW h q1 q2 cA cB tf ff cw td an qb pa o cC fo g r1 r2 dA dB cd ct tg fg tE aE qE pE aT aF dg fi lo) → va_S (fun q => s.heap.size ≤ q) s.heap H locs → lv_has ls 7 [(4, .int i), (3, .ref o), (2, .ref g), (1, .ref h), (0, .ref b)] → W p l e room_1 s m #[Value.ref b] below meth c H locs (cells + 6) (slots + 24) Q (F0 m 936 ls [])) : W p l e room_1 s m #[Value.ref b] below meth c H locs cells slots Q (F0 m 540 ls []) := by
  obtain ⟨hx, hb, hr, hml, hown, hts, hX, hbl, hlocks, hE, hDW, hl9, hL⟩ := C0
  have hA : ∀ q : Nat, s.heap.size ≤ q → (fun q : Nat => s.heap.size ≤ q) q := fun _ h => h
  have hbA : ¬ (fun q : Nat => s.heap.size ≤ q) b := Nat.not_le.mpr hbl
  refine lv_aload_n hx hb dL_law_540 rfl (lv_at hl 3 rfl) ?_
  refine lv_aload_n hx hb dL_law_541 rfl (lv_at hl 4 rfl) ?_
  refine lv_iload hx hb dL_law_542 (lv_at hl 0 rfl) ?_
  refine lv_iconst (v := 1) hx hb dL_law_544 (by decide) ?_
  refine lv_iadd hx hb dL_law_545 ?_
  refine va_sld hx hb hX hbl hbA hS (idx_in hi hj hL (by decide)) dL_law_546 ?_
  refine lv_aload_n hx hb dL_law_547 rfl (lv_at hl 4 rfl) ?_
  refine lv_iload hx hb dL_law_548 (lv_at hl 0 rfl) ?_
  refine lv_iconst (v := 2) hx hb dL_law_550 (by decide) ?_
  refine lv_iadd hx hb dL_law_551 ?_
  refine va_sld hx hb hX hbl hbA hS (idx_in hi hj hL (by decide)) dL_law_552 ?_
  refine lv_aload_n hx hb dL_law_553 rfl (lv_at hl 4 rfl) ?_
  refine lv_iload hx hb dL_law_554 (lv_at hl 0 rfl) ?_
  refine lv_iconst (v := 3) hx hb dL_law_556 (by decide) ?_
  refine lv_iadd hx hb dL_law_557 ?_
  refine va_sld hx hb hX hbl hbA hS (idx_in hi hj hL (by decide)) dL_law_558 ?_
  refine lv_aload_n hx hb dL_law_559 rfl (lv_at hl 1 rfl) ?_
  have hKc : va_K D vwCl (tL cA cB cC) s := hK.sub [0, 1, 2] rfl
  have hPc : va_P D vwCl (cL h q1 q2 cA cB tf ff cw td an qb pa o cC fo) H := hP.sub [0, 1, 2, 3] rfl
  have hDc : va_D (fun q => s.heap.size ≤ q) (cL h q1 q2 cA cB tf ff cw td an qb pa o cC fo) := hD.sub [0, 1, 2, 3] (by decide) rfl
  have hFc := va_free (wc := cL h q1 q2 cA cB tf ff cw td an qb pa o cC fo) hD hS hA [0, 1, 2, 3] rfl
  refine va_calli (vx_runSW (As := [.ref h, .int (xs (i + 1).toNatClampNeg), .int (xs (i + 2).toNatClampNeg), .int (xs (i + 3).toNatClampNeg), .ref o]) (rest := []) ⟨hx, hb, hml, hown, hts⟩ (c_L_extract l hl9 D ad h q1 q2 cA cB tf ff cw td an qb pa o cC fo (xs (i + 1).toNatClampNeg) (xs (i + 2).toNatClampNeg) (xs (i + 3).toNatClampNeg) H.size) (vx_cwSW 5 hts gL_law_L_extract rfl rfl rfl kS_L_extract ⟨Nat.le_of_ble_eq_true rfl, Nat.le_of_ble_eq_true rfl⟩) ⟨TXB.blind MRB.blind, TXB.pre (MRB.pre hKc hPc hDc vP_nil ap_nil hE hS hFc) hDW⟩ rfl rfl hl.1 rfl (lv_room (Nat.le_of_ble_eq_true rfl)) dL_law_560 ⟨rmC (by omega), rmS (by omega)⟩) hS (fun q _ h9 => hFc q h9) hFc (fun k9 u9 t9 H1 locs1 ht hvm hw hB hz1 hk1 hS => ?_)
  obtain rfl := hw
  obtain ⟨v9, o_tf, o_ff, o_td, o_an, fo9, hq, hfo, hP1, hD1⟩ := hB
  rw [ht] at hP1
  obtain ⟨hP, hD⟩ := va_join (wr := cMd g r1 r2 dA dB cd ct tg fg tE aE qE pE aT aF dg fi lo) (w1 := cL h q1 q2 cA cB o_tf o_ff cw o_td o_an qb pa o cC fo9) hP hD [0, 1, 2, 3] [4, 5, 6] rfl rfl (by decide) (by decide) hk1 hFc hP1 hD1
  have hP : va_P D vwCl (wW h q1 q2 cA cB o_tf o_ff cw o_td o_an qb pa o cC fo9 g r1 r2 dA dB cd ct tg fg tE aE qE pE aT aF dg fi lo) H1 := hP.sub [3, 4, 5, 6, 0, 1, 2] rfl
  have hD : va_D (fun q => s.heap.size ≤ q) (wW h q1 q2 cA cB o_tf o_ff cw o_td o_an qb pa o cC fo9 g r1 r2 dA dB cd ct tg fg tE aE qE pE aT aF dg fi lo) := hD.sub [3, 4, 5, 6, 0, 1, 2] (by decide) rfl
  refine lv_istore (lv' := [(5, .int k9), (4, .int i), (3, .ref o), (2, .ref g), (1, .ref h), (0, .ref b)]) hx hb dL_law_563 hl (by decide) rfl (fun ls hl => ?_)
  refine lv_aload_n hx hb dL_law_565 rfl (lv_at hl 3 rfl) ?_
  refine lv_aload_n hx hb dL_law_566 rfl (lv_at hl 5 rfl) ?_
  refine lv_iload hx hb dL_law_567 (lv_at hl 1 rfl) ?_
  refine lv_iconst (v := 1) hx hb dL_law_569 (by decide) ?_
  refine lv_iadd hx hb dL_law_570 ?_
  refine va_sld hx hb hX hbl hbA hS (idx_in hi hj hL (by decide)) dL_law_571 ?_
  refine lv_aload_n hx hb dL_law_572 rfl (lv_at hl 5 rfl) ?_
  refine lv_iload hx hb dL_law_573 (lv_at hl 1 rfl) ?_
  refine lv_iconst (v := 2) hx hb dL_law_575 (by decide) ?_
  refine lv_iadd hx hb dL_law_576 ?_
  refine va_sld hx hb hX hbl hbA hS (idx_in hi hj hL (by decide)) dL_law_577 ?_
  refine lv_aload_n hx hb dL_law_578 rfl (lv_at hl 5 rfl) ?_
  refine lv_iload hx hb dL_law_579 (lv_at hl 1 rfl) ?_
  refine lv_iconst (v := 3) hx hb dL_law_581 (by decide) ?_
  refine lv_iadd hx hb dL_law_582 ?_
  refine va_sld hx hb hX hbl hbA hS (idx_in hi hj hL (by decide)) dL_law_583 ?_
  have hKm : va_K D vwCl (tRS dA dB) s := hK.sub [3, 4] rfl
  have hPm : va_P D vwCl (cMd g r1 r2 dA dB cd ct tg fg tE aE qE pE aT aF dg fi lo) H1 := hP.sub [4, 5, 6] rfl
  have hDm : va_D (fun q => s.heap.size ≤ q) (cMd g r1 r2 dA dB cd ct tg fg tE aE qE pE aT aF dg fi lo) := hD.sub [4, 5, 6] (by decide) rfl
  have hFm := va_free (wc := cMd g r1 r2 dA dB cd ct tg fg tE aE qE pE aT aF dg fi lo) hD hS hA [4, 5, 6] rfl
  refine va_calli (va_runV (As := [.int (xs (i + 1).toNatClampNeg), .int (xs (i + 2).toNatClampNeg), .int (xs (i + 3).toNatClampNeg)]) (rest := []) ⟨hx, hb, hml, hown, hts⟩ (c_X3_extract l D g r1 r2 dA dB cd ct tg fg tE aE qE pE aT aF dg fi lo (xs (i + 1).toNatClampNeg) (xs (i + 2).toNatClampNeg) (xs (i + 3).toNatClampNeg) H1.size) (cwV 3 hts gL_law_X3_extract rfl rfl rfl kV_X3_extract ⟨Nat.le_of_ble_eq_true rfl, Nat.le_of_ble_eq_true rfl⟩) ⟨MMB.blind, va_recv hKm hPm (ci := 2) (q0 := 0) rfl rfl, MMB.pre hKm hPm hDm⟩ rfl rfl hl.1 rfl (lv_room (Nat.le_of_ble_eq_true rfl)) dL_law_584 ⟨rmC (by omega), rmS (by omega)⟩) hS (fun q _ h9 => hFm q h9) hFm (fun b9 u9 t9 H2 locs2 ht hvm hw hB hz1 hk1 hS => ?_)
  obtain rfl := hw
  obtain ⟨m_cd, m_tf, m_ff, m_td, m_an, m_aT, m_aF, m_dg, m_fi, m_lo, hm, hP1, hD1⟩ := hB
  rw [ht] at hP1
  obtain ⟨hP, hD⟩ := va_join (wr := cL h q1 q2 cA cB o_tf o_ff cw o_td o_an qb pa o cC fo9) (w1 := cMd g r1 r2 dA dB m_cd ct m_tf m_ff m_td m_an qE pE m_aT m_aF m_dg m_fi m_lo) hP hD [4, 5, 6] [0, 1, 2, 3] rfl rfl (by decide) (by decide) hk1 hFm hP1 hD1
  have hP : va_P D vwCl (wW h q1 q2 cA cB o_tf o_ff cw o_td o_an qb pa o cC fo9 g r1 r2 dA dB m_cd ct m_tf m_ff m_td m_an qE pE m_aT m_aF m_dg m_fi m_lo) H2 := hP
  have hD : va_D (fun q => s.heap.size ≤ q) (wW h q1 q2 cA cB o_tf o_ff cw o_td o_an qb pa o cC fo9 g r1 r2 dA dB m_cd ct m_tf m_ff m_td m_an qE pE m_aT m_aF m_dg m_fi m_lo) := hD
  obtain ⟨hk9, hv9, hinv⟩ := hs tf ff cw td an qb pa cd ct tg fg tE aE qE pE aT aF dg fi lo (xs (i + 1).toNatClampNeg) (xs (i + 2).toNatClampNeg) (xs (i + 3).toNatClampNeg) hinv _ _ _ _ _ _ _ _ _ _ _ _ _ _ _ _ _ hq hm
  refine lv_istore (lv' := [(6, .int b9), (5, .int k9), (4, .int i), (3, .ref o), (2, .ref g), (1, .ref h), (0, .ref b)]) hx hb dL_law_587 hl (by decide) rfl (fun ls hl => ?_)
  refine lv_aload_n hx hb dL_law_589 rfl (lv_at hl 4 rfl) ?_
  have hPm : va_P D vwCl (cMd g r1 r2 dA dB m_cd ct m_tf m_ff m_td m_an qE pE m_aT m_aF m_dg m_fi m_lo) H2 := hP.sub [4, 5, 6] rfl
  refine vp_callSi (va_cr (va_runV (As := []) (rest := []) ⟨hx, hb, hml, hown, hts⟩ (c_X3_thrown l D g r1 r2 dA dB m_cd ct m_tf m_ff m_td m_an qE pE m_aT m_aF m_dg m_fi m_lo) (cwV 0 hts gL_law_X3_thrown rfl rfl rfl kV_X3_thrown ⟨Nat.le_of_ble_eq_true rfl, Nat.le_of_ble_eq_true rfl⟩) ⟨PB.blind, va_recv hKm hPm (ci := 2) (q0 := 0) rfl rfl, PB.pre hKm hPm⟩ rfl rfl hl.1 rfl (lv_room (Nat.le_of_ble_eq_true rfl)) dL_law_590 ⟨rmC (by omega), rmS (by omega)⟩)) (fun r9 e9 => ?_)
  rw [e9]
  refine lv_iload hx hb dL_law_593 (lv_at hl 1 rfl) ?_
  refine lv_icmp_eq (tgt := 600) hx hb dL_law_595 (by decide) (fun c_2 => ?_) (fun c_2 => absurd hk9 c_2)
  refine lv_iload hx hb dL_law_600 (lv_at hl 1 rfl) ?_
  refine lv_if_ne (tgt := 617) hx hb dL_law_602 (by decide) (fun c_3 => ?_) (fun c_3 => ?_)
  · refine lv_goto (tgt := 936) hx hb dL_law_617 (by decide) ?_
    refine W.widen (k := cells + 6) (n := slots + 24) (by omega) (by omega) ?_
    exact K _ _ _ _ _ _ _ _ _ _ _ _ _ _ _ _ _ _ _ _ _ _ _ _ hinv hP hD hS (lv_sub hl [2, 3, 4, 5, 6] rfl)
  · refine lv_aload_n hx hb dL_law_605 rfl (lv_at hl 3 rfl) ?_
    refine lv_iconst (v := 0) hx hb dL_law_606 (by decide) ?_
    refine va_lald hx hb hK hP 3 2 rfl rfl in_01 dL_law_607 ?_
    refine lv_iload hx hb dL_law_608 (lv_at hl 0 rfl) ?_
    refine lv_i2l (v := b9.toInt64) hx hb dL_law_610 rfl ?_
    refine q_cl_eq (tgt := 617) hx hb dL_law_611 dL_law_612 (by decide) (fun c_4 => ?_) (fun c_4 => absurd ((hfo c_3).trans (congrArg Int32.toInt64 (hv9 c_3))) c_4)
    refine lv_goto (tgt := 936) hx hb dL_law_617 (by decide) ?_
    refine W.widen (k := cells + 6) (n := slots + 24) (by omega) (by omega) ?_
    exact K _ _ _ _ _ _ _ _ _ _ _ _ _ _ _ _ _ _ _ _ _ _ _ _ hinv hP hD hS (lv_sub hl [2, 3, 4, 5, 6] rfl)
set_option maxHeartbeats 4000000 in
set_option maxRecDepth 100000 in
theorem law_remainder {p : Program} {l : Launch} {e : Env} {s : State} {m : MethodId} {below : List Frame} {meth : Method} {c : Code} {b L : Nat} {xs : Nat → Int32} {Q : State → Prop} {D : va_G} {ad : Nat → Nat} (hs : S_remainder) (C0 : LC p l s m meth c b L xs ad) {j : Nat} {i : Int32} (hi : i.toInt = 5 * (j : Int)) (hj : 5 * j + 5 ≤ L) {cells slots : Nat} (hc6 : cells + 6 ≤ 710647) (hs24 : slots + 24 ≤ 6964162) {h q1 q2 g r1 r2 o : Nat} {cA cB cC dA dB : ClassId} (tf : Nat → Int32) (ff : Nat → Int64) (cw : Int32) (td : Int32) (an : Bool) (qb : Int32) (pa : Bool) (cd : Int32) (ct : Int32) (tg : Nat → Int32) (fg : Nat → Int64) (tE : Int32) (aE : Bool) (qE : Int32) (pE : Bool) (aT : Int32) (aF : Int64) (dg : Int64) (fi : Int32) (lo : Bool) (fo : Nat → Int64) (hinv : INV tf ff cw td an qb pa ct tg fg tE aE qE pE) {H : Heap} {locs : List Loc} (hK : va_K D vwCl (tW cA cB cC dA dB) s) (hP : va_P D vwCl (wW h q1 q2 cA cB tf ff cw td an qb pa o cC fo g r1 r2 dA dB cd ct tg fg tE aE qE pE aT aF dg fi lo) H) (hD : va_D (fun q => s.heap.size ≤ q) (wW h q1 q2 cA cB tf ff cw td an qb pa o cC fo g r1 r2 dA dB cd ct tg fg tE aE qE pE aT aF dg fi lo)) (hS : va_S (fun q => s.heap.size ≤ q) s.heap H locs) {ls : Array Slot} (hl : lv_has ls 7 [(4, .int i), (3, .ref o), (2, .ref g), (1, .ref h), (0, .ref b)]) (K : ∀ (tf : Nat → Int32) (ff : Nat → Int64) (cw : Int32) (td : Int32) (an : Bool) (qb : Int32) (pa : Bool) (cd : Int32) (ct : Int32) (tg : Nat → Int32) (fg : Nat → Int64) (tE : Int32) (aE : Bool) (qE : Int32) (pE : Bool) (aT : Int32) (aF : Int64) (dg : Int64) (fi : Int32) (lo : Bool) (fo : Nat → Int64) (H : Heap) (locs : List Loc) (ls : Array Slot), INV tf ff cw td an qb pa ct tg fg tE aE qE pE → va_P D vwCl (wW h q1 q2 cA cB tf ff cw td an qb pa o cC fo g r1 r2 dA dB cd ct tg fg tE aE qE pE aT aF dg fi lo) H → va_D (fun q => s.heap.size ≤ q) (wW h q1 q2 cA cB tf ff cw td an qb pa o cC fo g r1 r2 dA dB cd ct tg fg tE aE qE pE aT aF dg fi lo) → va_S (fun q => s.heap.size ≤ q) s.heap H locs → lv_has ls 7 [(4, .int i), (3, .ref o), (2, .ref g), (1, .ref h), (0, .ref b)] → W p l e room_1 s m #[Value.ref b] below meth c H locs (cells + 6) (slots + 24) Q (F0 m 936 ls [])) : W p l e room_1 s m #[Value.ref b] below meth c H locs cells slots Q (F0 m 620 ls []) := by
  obtain ⟨hx, hb, hr, hml, hown, hts, hX, hbl, hlocks, hE, hDW, hl9, hL⟩ := C0
  have hA : ∀ q : Nat, s.heap.size ≤ q → (fun q : Nat => s.heap.size ≤ q) q := fun _ h => h
  have hbA : ¬ (fun q : Nat => s.heap.size ≤ q) b := Nat.not_le.mpr hbl
  refine lv_aload_n hx hb dL_law_620 rfl (lv_at hl 3 rfl) ?_
  refine lv_aload_n hx hb dL_law_621 rfl (lv_at hl 4 rfl) ?_
  refine lv_iload hx hb dL_law_622 (lv_at hl 0 rfl) ?_
  refine lv_iconst (v := 1) hx hb dL_law_624 (by decide) ?_
  refine lv_iadd hx hb dL_law_625 ?_
  refine va_sld hx hb hX hbl hbA hS (idx_in hi hj hL (by decide)) dL_law_626 ?_
  refine lv_aload_n hx hb dL_law_627 rfl (lv_at hl 4 rfl) ?_
  refine lv_iload hx hb dL_law_628 (lv_at hl 0 rfl) ?_
  refine lv_iconst (v := 2) hx hb dL_law_630 (by decide) ?_
  refine lv_iadd hx hb dL_law_631 ?_
  refine va_sld hx hb hX hbl hbA hS (idx_in hi hj hL (by decide)) dL_law_632 ?_
  refine lv_aload_n hx hb dL_law_633 rfl (lv_at hl 4 rfl) ?_
  refine lv_iload hx hb dL_law_634 (lv_at hl 0 rfl) ?_
  refine lv_iconst (v := 3) hx hb dL_law_636 (by decide) ?_
  refine lv_iadd hx hb dL_law_637 ?_
  refine va_sld hx hb hX hbl hbA hS (idx_in hi hj hL (by decide)) dL_law_638 ?_
  refine lv_aload_n hx hb dL_law_639 rfl (lv_at hl 1 rfl) ?_
  have hKc : va_K D vwCl (tL cA cB cC) s := hK.sub [0, 1, 2] rfl
  have hPc : va_P D vwCl (cL h q1 q2 cA cB tf ff cw td an qb pa o cC fo) H := hP.sub [0, 1, 2, 3] rfl
  have hDc : va_D (fun q => s.heap.size ≤ q) (cL h q1 q2 cA cB tf ff cw td an qb pa o cC fo) := hD.sub [0, 1, 2, 3] (by decide) rfl
  have hFc := va_free (wc := cL h q1 q2 cA cB tf ff cw td an qb pa o cC fo) hD hS hA [0, 1, 2, 3] rfl
  refine va_calli (vx_runSW (As := [.ref h, .int (xs (i + 1).toNatClampNeg), .int (xs (i + 2).toNatClampNeg), .int (xs (i + 3).toNatClampNeg), .ref o]) (rest := []) ⟨hx, hb, hml, hown, hts⟩ (c_L_remainder l hl9 D ad h q1 q2 cA cB tf ff cw td an qb pa o cC fo (xs (i + 1).toNatClampNeg) (xs (i + 2).toNatClampNeg) (xs (i + 3).toNatClampNeg) H.size) (vx_cwSW 5 hts gL_law_L_remainder rfl rfl rfl kS_L_remainder ⟨Nat.le_of_ble_eq_true rfl, Nat.le_of_ble_eq_true rfl⟩) ⟨TXB.blind MRB.blind, TXB.pre (MRB.pre hKc hPc hDc vP_nil ap_nil hE hS hFc) hDW⟩ rfl rfl hl.1 rfl (lv_room (Nat.le_of_ble_eq_true rfl)) dL_law_640 ⟨rmC (by omega), rmS (by omega)⟩) hS (fun q _ h9 => hFc q h9) hFc (fun k9 u9 t9 H1 locs1 ht hvm hw hB hz1 hk1 hS => ?_)
  obtain rfl := hw
  obtain ⟨v9, o_tf, o_ff, o_td, o_an, o_qb, o_pa, fo9, hq, hfo, hP1, hD1⟩ := hB
  rw [ht] at hP1
  obtain ⟨hP, hD⟩ := va_join (wr := cMd g r1 r2 dA dB cd ct tg fg tE aE qE pE aT aF dg fi lo) (w1 := cL h q1 q2 cA cB o_tf o_ff cw o_td o_an o_qb o_pa o cC fo9) hP hD [0, 1, 2, 3] [4, 5, 6] rfl rfl (by decide) (by decide) hk1 hFc hP1 hD1
  have hP : va_P D vwCl (wW h q1 q2 cA cB o_tf o_ff cw o_td o_an o_qb o_pa o cC fo9 g r1 r2 dA dB cd ct tg fg tE aE qE pE aT aF dg fi lo) H1 := hP.sub [3, 4, 5, 6, 0, 1, 2] rfl
  have hD : va_D (fun q => s.heap.size ≤ q) (wW h q1 q2 cA cB o_tf o_ff cw o_td o_an o_qb o_pa o cC fo9 g r1 r2 dA dB cd ct tg fg tE aE qE pE aT aF dg fi lo) := hD.sub [3, 4, 5, 6, 0, 1, 2] (by decide) rfl
  refine lv_istore (lv' := [(5, .int k9), (4, .int i), (3, .ref o), (2, .ref g), (1, .ref h), (0, .ref b)]) hx hb dL_law_643 hl (by decide) rfl (fun ls hl => ?_)
  refine lv_aload_n hx hb dL_law_645 rfl (lv_at hl 3 rfl) ?_
  refine lv_aload_n hx hb dL_law_646 rfl (lv_at hl 5 rfl) ?_
  refine lv_iload hx hb dL_law_647 (lv_at hl 1 rfl) ?_
  refine lv_iconst (v := 1) hx hb dL_law_649 (by decide) ?_
  refine lv_iadd hx hb dL_law_650 ?_
  refine va_sld hx hb hX hbl hbA hS (idx_in hi hj hL (by decide)) dL_law_651 ?_
  refine lv_aload_n hx hb dL_law_652 rfl (lv_at hl 5 rfl) ?_
  refine lv_iload hx hb dL_law_653 (lv_at hl 1 rfl) ?_
  refine lv_iconst (v := 2) hx hb dL_law_655 (by decide) ?_
  refine lv_iadd hx hb dL_law_656 ?_
  refine va_sld hx hb hX hbl hbA hS (idx_in hi hj hL (by decide)) dL_law_657 ?_
  refine lv_aload_n hx hb dL_law_658 rfl (lv_at hl 5 rfl) ?_
  refine lv_iload hx hb dL_law_659 (lv_at hl 1 rfl) ?_
  refine lv_iconst (v := 3) hx hb dL_law_661 (by decide) ?_
  refine lv_iadd hx hb dL_law_662 ?_
  refine va_sld hx hb hX hbl hbA hS (idx_in hi hj hL (by decide)) dL_law_663 ?_
  have hKm : va_K D vwCl (tRS dA dB) s := hK.sub [3, 4] rfl
  have hPm : va_P D vwCl (cMd g r1 r2 dA dB cd ct tg fg tE aE qE pE aT aF dg fi lo) H1 := hP.sub [4, 5, 6] rfl
  have hDm : va_D (fun q => s.heap.size ≤ q) (cMd g r1 r2 dA dB cd ct tg fg tE aE qE pE aT aF dg fi lo) := hD.sub [4, 5, 6] (by decide) rfl
  have hFm := va_free (wc := cMd g r1 r2 dA dB cd ct tg fg tE aE qE pE aT aF dg fi lo) hD hS hA [4, 5, 6] rfl
  refine va_calli (va_runV (As := [.int (xs (i + 1).toNatClampNeg), .int (xs (i + 2).toNatClampNeg), .int (xs (i + 3).toNatClampNeg)]) (rest := []) ⟨hx, hb, hml, hown, hts⟩ (c_X3_remainder l D g r1 r2 dA dB cd ct tg fg tE aE qE pE aT aF dg fi lo (xs (i + 1).toNatClampNeg) (xs (i + 2).toNatClampNeg) (xs (i + 3).toNatClampNeg) H1.size) (cwV 3 hts gL_law_X3_remainder rfl rfl rfl kV_X3_remainder ⟨Nat.le_of_ble_eq_true rfl, Nat.le_of_ble_eq_true rfl⟩) ⟨MMB.blind, va_recv hKm hPm (ci := 2) (q0 := 0) rfl rfl, MMB.pre hKm hPm hDm⟩ rfl rfl hl.1 rfl (lv_room (Nat.le_of_ble_eq_true rfl)) dL_law_664 ⟨rmC (by omega), rmS (by omega)⟩) hS (fun q _ h9 => hFm q h9) hFm (fun b9 u9 t9 H2 locs2 ht hvm hw hB hz1 hk1 hS => ?_)
  obtain rfl := hw
  obtain ⟨m_cd, m_tf, m_ff, m_td, m_an, m_qb, m_pa, m_aT, m_aF, m_dg, m_fi, m_lo, hm, hP1, hD1⟩ := hB
  rw [ht] at hP1
  obtain ⟨hP, hD⟩ := va_join (wr := cL h q1 q2 cA cB o_tf o_ff cw o_td o_an o_qb o_pa o cC fo9) (w1 := cMd g r1 r2 dA dB m_cd ct m_tf m_ff m_td m_an m_qb m_pa m_aT m_aF m_dg m_fi m_lo) hP hD [4, 5, 6] [0, 1, 2, 3] rfl rfl (by decide) (by decide) hk1 hFm hP1 hD1
  have hP : va_P D vwCl (wW h q1 q2 cA cB o_tf o_ff cw o_td o_an o_qb o_pa o cC fo9 g r1 r2 dA dB m_cd ct m_tf m_ff m_td m_an m_qb m_pa m_aT m_aF m_dg m_fi m_lo) H2 := hP
  have hD : va_D (fun q => s.heap.size ≤ q) (wW h q1 q2 cA cB o_tf o_ff cw o_td o_an o_qb o_pa o cC fo9 g r1 r2 dA dB m_cd ct m_tf m_ff m_td m_an m_qb m_pa m_aT m_aF m_dg m_fi m_lo) := hD
  obtain ⟨hk9, hv9, hinv⟩ := hs tf ff cw td an qb pa cd ct tg fg tE aE qE pE aT aF dg fi lo (xs (i + 1).toNatClampNeg) (xs (i + 2).toNatClampNeg) (xs (i + 3).toNatClampNeg) hinv _ _ _ _ _ _ _ _ _ _ _ _ _ _ _ _ _ _ _ _ _ hq hm
  refine lv_istore (lv' := [(6, .int b9), (5, .int k9), (4, .int i), (3, .ref o), (2, .ref g), (1, .ref h), (0, .ref b)]) hx hb dL_law_667 hl (by decide) rfl (fun ls hl => ?_)
  refine lv_aload_n hx hb dL_law_669 rfl (lv_at hl 4 rfl) ?_
  have hPm : va_P D vwCl (cMd g r1 r2 dA dB m_cd ct m_tf m_ff m_td m_an m_qb m_pa m_aT m_aF m_dg m_fi m_lo) H2 := hP.sub [4, 5, 6] rfl
  refine vp_callSi (va_cr (va_runV (As := []) (rest := []) ⟨hx, hb, hml, hown, hts⟩ (c_X3_thrown l D g r1 r2 dA dB m_cd ct m_tf m_ff m_td m_an m_qb m_pa m_aT m_aF m_dg m_fi m_lo) (cwV 0 hts gL_law_X3_thrown rfl rfl rfl kV_X3_thrown ⟨Nat.le_of_ble_eq_true rfl, Nat.le_of_ble_eq_true rfl⟩) ⟨PB.blind, va_recv hKm hPm (ci := 2) (q0 := 0) rfl rfl, PB.pre hKm hPm⟩ rfl rfl hl.1 rfl (lv_room (Nat.le_of_ble_eq_true rfl)) dL_law_670 ⟨rmC (by omega), rmS (by omega)⟩)) (fun r9 e9 => ?_)
  rw [e9]
  refine lv_iload hx hb dL_law_673 (lv_at hl 1 rfl) ?_
  refine lv_icmp_eq (tgt := 680) hx hb dL_law_675 (by decide) (fun c_2 => ?_) (fun c_2 => absurd hk9 c_2)
  refine lv_iload hx hb dL_law_680 (lv_at hl 1 rfl) ?_
  refine lv_if_ne (tgt := 697) hx hb dL_law_682 (by decide) (fun c_3 => ?_) (fun c_3 => ?_)
  · refine lv_goto (tgt := 936) hx hb dL_law_697 (by decide) ?_
    refine W.widen (k := cells + 6) (n := slots + 24) (by omega) (by omega) ?_
    exact K _ _ _ _ _ _ _ _ _ _ _ _ _ _ _ _ _ _ _ _ _ _ _ _ hinv hP hD hS (lv_sub hl [2, 3, 4, 5, 6] rfl)
  · refine lv_aload_n hx hb dL_law_685 rfl (lv_at hl 3 rfl) ?_
    refine lv_iconst (v := 0) hx hb dL_law_686 (by decide) ?_
    refine va_lald hx hb hK hP 3 2 rfl rfl in_01 dL_law_687 ?_
    refine lv_iload hx hb dL_law_688 (lv_at hl 0 rfl) ?_
    refine lv_i2l (v := b9.toInt64) hx hb dL_law_690 rfl ?_
    refine q_cl_eq (tgt := 697) hx hb dL_law_691 dL_law_692 (by decide) (fun c_4 => ?_) (fun c_4 => absurd ((hfo c_3).trans (congrArg Int32.toInt64 (hv9 c_3))) c_4)
    refine lv_goto (tgt := 936) hx hb dL_law_697 (by decide) ?_
    refine W.widen (k := cells + 6) (n := slots + 24) (by omega) (by omega) ?_
    exact K _ _ _ _ _ _ _ _ _ _ _ _ _ _ _ _ _ _ _ _ _ _ _ _ hinv hP hD hS (lv_sub hl [2, 3, 4, 5, 6] rfl)
set_option maxHeartbeats 4000000 in
set_option maxRecDepth 100000 in
theorem law_compare {p : Program} {l : Launch} {e : Env} {s : State} {m : MethodId} {below : List Frame} {meth : Method} {c : Code} {b L : Nat} {xs : Nat → Int32} {Q : State → Prop} {D : va_G} {ad : Nat → Nat} (hs : S_compare) (C0 : LC p l s m meth c b L xs ad) {j : Nat} {i : Int32} (hi : i.toInt = 5 * (j : Int)) (hj : 5 * j + 5 ≤ L) {cells slots : Nat} (hc6 : cells + 6 ≤ 710647) (hs24 : slots + 24 ≤ 6964162) {h q1 q2 g r1 r2 o : Nat} {cA cB cC dA dB : ClassId} (tf : Nat → Int32) (ff : Nat → Int64) (cw : Int32) (td : Int32) (an : Bool) (qb : Int32) (pa : Bool) (cd : Int32) (ct : Int32) (tg : Nat → Int32) (fg : Nat → Int64) (tE : Int32) (aE : Bool) (qE : Int32) (pE : Bool) (aT : Int32) (aF : Int64) (dg : Int64) (fi : Int32) (lo : Bool) (fo : Nat → Int64) (hinv : INV tf ff cw td an qb pa ct tg fg tE aE qE pE) {H : Heap} {locs : List Loc} (hK : va_K D vwCl (tW cA cB cC dA dB) s) (hP : va_P D vwCl (wW h q1 q2 cA cB tf ff cw td an qb pa o cC fo g r1 r2 dA dB cd ct tg fg tE aE qE pE aT aF dg fi lo) H) (hD : va_D (fun q => s.heap.size ≤ q) (wW h q1 q2 cA cB tf ff cw td an qb pa o cC fo g r1 r2 dA dB cd ct tg fg tE aE qE pE aT aF dg fi lo)) (hS : va_S (fun q => s.heap.size ≤ q) s.heap H locs) {ls : Array Slot} (hl : lv_has ls 7 [(4, .int i), (3, .ref o), (2, .ref g), (1, .ref h), (0, .ref b)]) (K : ∀ (tf : Nat → Int32) (ff : Nat → Int64) (cw : Int32) (td : Int32) (an : Bool) (qb : Int32) (pa : Bool) (cd : Int32) (ct : Int32) (tg : Nat → Int32) (fg : Nat → Int64) (tE : Int32) (aE : Bool) (qE : Int32) (pE : Bool) (aT : Int32) (aF : Int64) (dg : Int64) (fi : Int32) (lo : Bool) (fo : Nat → Int64) (H : Heap) (locs : List Loc) (ls : Array Slot), INV tf ff cw td an qb pa ct tg fg tE aE qE pE → va_P D vwCl (wW h q1 q2 cA cB tf ff cw td an qb pa o cC fo g r1 r2 dA dB cd ct tg fg tE aE qE pE aT aF dg fi lo) H → va_D (fun q => s.heap.size ≤ q) (wW h q1 q2 cA cB tf ff cw td an qb pa o cC fo g r1 r2 dA dB cd ct tg fg tE aE qE pE aT aF dg fi lo) → va_S (fun q => s.heap.size ≤ q) s.heap H locs → lv_has ls 7 [(4, .int i), (3, .ref o), (2, .ref g), (1, .ref h), (0, .ref b)] → W p l e room_1 s m #[Value.ref b] below meth c H locs (cells + 6) (slots + 24) Q (F0 m 936 ls [])) : W p l e room_1 s m #[Value.ref b] below meth c H locs cells slots Q (F0 m 700 ls []) := by
  obtain ⟨hx, hb, hr, hml, hown, hts, hX, hbl, hlocks, hE, hDW, hl9, hL⟩ := C0
  have hA : ∀ q : Nat, s.heap.size ≤ q → (fun q : Nat => s.heap.size ≤ q) q := fun _ h => h
  have hbA : ¬ (fun q : Nat => s.heap.size ≤ q) b := Nat.not_le.mpr hbl
  refine lv_aload_n hx hb dL_law_700 rfl (lv_at hl 3 rfl) ?_
  refine lv_aload_n hx hb dL_law_701 rfl (lv_at hl 4 rfl) ?_
  refine lv_iload hx hb dL_law_702 (lv_at hl 0 rfl) ?_
  refine lv_iconst (v := 1) hx hb dL_law_704 (by decide) ?_
  refine lv_iadd hx hb dL_law_705 ?_
  refine va_sld hx hb hX hbl hbA hS (idx_in hi hj hL (by decide)) dL_law_706 ?_
  refine lv_aload_n hx hb dL_law_707 rfl (lv_at hl 4 rfl) ?_
  refine lv_iload hx hb dL_law_708 (lv_at hl 0 rfl) ?_
  refine lv_iconst (v := 2) hx hb dL_law_710 (by decide) ?_
  refine lv_iadd hx hb dL_law_711 ?_
  refine va_sld hx hb hX hbl hbA hS (idx_in hi hj hL (by decide)) dL_law_712 ?_
  refine lv_aload_n hx hb dL_law_713 rfl (lv_at hl 1 rfl) ?_
  have hKc : va_K D vwCl (tL cA cB cC) s := hK.sub [0, 1, 2] rfl
  have hPc : va_P D vwCl (cL h q1 q2 cA cB tf ff cw td an qb pa o cC fo) H := hP.sub [0, 1, 2, 3] rfl
  have hDc : va_D (fun q => s.heap.size ≤ q) (cL h q1 q2 cA cB tf ff cw td an qb pa o cC fo) := hD.sub [0, 1, 2, 3] (by decide) rfl
  have hFc := va_free (wc := cL h q1 q2 cA cB tf ff cw td an qb pa o cC fo) hD hS hA [0, 1, 2, 3] rfl
  refine va_calli (vx_runSW (As := [.ref h, .int (xs (i + 1).toNatClampNeg), .int (xs (i + 2).toNatClampNeg), .ref o]) (rest := []) ⟨hx, hb, hml, hown, hts⟩ (c_L_compare l hl9 D ad h q1 q2 cA cB tf ff cw td an qb pa o cC fo (xs (i + 1).toNatClampNeg) (xs (i + 2).toNatClampNeg) H.size) (vx_cwSW 4 hts gL_law_L_compare rfl rfl rfl kS_L_compare ⟨Nat.le_of_ble_eq_true rfl, Nat.le_of_ble_eq_true rfl⟩) ⟨TXB.blind MRB.blind, TXB.pre (MRB.pre hKc hPc hDc vP_nil ap_nil hE hS hFc) hDW⟩ rfl rfl hl.1 rfl (lv_room (Nat.le_of_ble_eq_true rfl)) dL_law_714 ⟨rmC (by omega), rmS (by omega)⟩) hS (fun q _ h9 => hFc q h9) hFc (fun k9 u9 t9 H1 locs1 ht hvm hw hB hz1 hk1 hS => ?_)
  obtain rfl := hw
  obtain ⟨v9, o_td, o_an, fo9, hq, hfo, hP1, hD1⟩ := hB
  rw [ht] at hP1
  obtain ⟨hP, hD⟩ := va_join (wr := cMd g r1 r2 dA dB cd ct tg fg tE aE qE pE aT aF dg fi lo) (w1 := cL h q1 q2 cA cB tf ff cw o_td o_an qb pa o cC fo9) hP hD [0, 1, 2, 3] [4, 5, 6] rfl rfl (by decide) (by decide) hk1 hFc hP1 hD1
  have hP : va_P D vwCl (wW h q1 q2 cA cB tf ff cw o_td o_an qb pa o cC fo9 g r1 r2 dA dB cd ct tg fg tE aE qE pE aT aF dg fi lo) H1 := hP.sub [3, 4, 5, 6, 0, 1, 2] rfl
  have hD : va_D (fun q => s.heap.size ≤ q) (wW h q1 q2 cA cB tf ff cw o_td o_an qb pa o cC fo9 g r1 r2 dA dB cd ct tg fg tE aE qE pE aT aF dg fi lo) := hD.sub [3, 4, 5, 6, 0, 1, 2] (by decide) rfl
  refine lv_istore (lv' := [(5, .int k9), (4, .int i), (3, .ref o), (2, .ref g), (1, .ref h), (0, .ref b)]) hx hb dL_law_717 hl (by decide) rfl (fun ls hl => ?_)
  refine lv_aload_n hx hb dL_law_719 rfl (lv_at hl 3 rfl) ?_
  refine lv_aload_n hx hb dL_law_720 rfl (lv_at hl 5 rfl) ?_
  refine lv_iload hx hb dL_law_721 (lv_at hl 1 rfl) ?_
  refine lv_iconst (v := 1) hx hb dL_law_723 (by decide) ?_
  refine lv_iadd hx hb dL_law_724 ?_
  refine va_sld hx hb hX hbl hbA hS (idx_in hi hj hL (by decide)) dL_law_725 ?_
  refine lv_aload_n hx hb dL_law_726 rfl (lv_at hl 5 rfl) ?_
  refine lv_iload hx hb dL_law_727 (lv_at hl 1 rfl) ?_
  refine lv_iconst (v := 2) hx hb dL_law_729 (by decide) ?_
  refine lv_iadd hx hb dL_law_730 ?_
  refine va_sld hx hb hX hbl hbA hS (idx_in hi hj hL (by decide)) dL_law_731 ?_
  have hKm : va_K D vwCl (tRS dA dB) s := hK.sub [3, 4] rfl
  have hPm : va_P D vwCl (cMd g r1 r2 dA dB cd ct tg fg tE aE qE pE aT aF dg fi lo) H1 := hP.sub [4, 5, 6] rfl
  have hDm : va_D (fun q => s.heap.size ≤ q) (cMd g r1 r2 dA dB cd ct tg fg tE aE qE pE aT aF dg fi lo) := hD.sub [4, 5, 6] (by decide) rfl
  have hFm := va_free (wc := cMd g r1 r2 dA dB cd ct tg fg tE aE qE pE aT aF dg fi lo) hD hS hA [4, 5, 6] rfl
  refine va_calli (va_runV (As := [.int (xs (i + 1).toNatClampNeg), .int (xs (i + 2).toNatClampNeg)]) (rest := []) ⟨hx, hb, hml, hown, hts⟩ (c_X3_compare l D g r1 r2 dA dB cd ct tg fg tE aE qE pE aT aF dg fi lo (xs (i + 1).toNatClampNeg) (xs (i + 2).toNatClampNeg) H1.size) (cwV 2 hts gL_law_X3_compare rfl rfl rfl kV_X3_compare ⟨Nat.le_of_ble_eq_true rfl, Nat.le_of_ble_eq_true rfl⟩) ⟨MMB.blind, va_recv hKm hPm (ci := 2) (q0 := 0) rfl rfl, MMB.pre hKm hPm hDm⟩ rfl rfl hl.1 rfl (lv_room (Nat.le_of_ble_eq_true rfl)) dL_law_732 ⟨rmC (by omega), rmS (by omega)⟩) hS (fun q _ h9 => hFm q h9) hFm (fun b9 u9 t9 H2 locs2 ht hvm hw hB hz1 hk1 hS => ?_)
  obtain rfl := hw
  obtain ⟨m_cd, m_td, m_an, m_aT, m_aF, m_dg, m_fi, hm, hP1, hD1⟩ := hB
  rw [ht] at hP1
  obtain ⟨hP, hD⟩ := va_join (wr := cL h q1 q2 cA cB tf ff cw o_td o_an qb pa o cC fo9) (w1 := cMd g r1 r2 dA dB m_cd ct tg fg m_td m_an qE pE m_aT m_aF m_dg m_fi lo) hP hD [4, 5, 6] [0, 1, 2, 3] rfl rfl (by decide) (by decide) hk1 hFm hP1 hD1
  have hP : va_P D vwCl (wW h q1 q2 cA cB tf ff cw o_td o_an qb pa o cC fo9 g r1 r2 dA dB m_cd ct tg fg m_td m_an qE pE m_aT m_aF m_dg m_fi lo) H2 := hP
  have hD : va_D (fun q => s.heap.size ≤ q) (wW h q1 q2 cA cB tf ff cw o_td o_an qb pa o cC fo9 g r1 r2 dA dB m_cd ct tg fg m_td m_an qE pE m_aT m_aF m_dg m_fi lo) := hD
  obtain ⟨hk9, hv9, hinv⟩ := hs tf ff cw td an qb pa cd ct tg fg tE aE qE pE aT aF dg fi lo (xs (i + 1).toNatClampNeg) (xs (i + 2).toNatClampNeg) hinv _ _ _ _ _ _ _ _ _ _ _ _ hq hm
  refine lv_istore (lv' := [(6, .int b9), (5, .int k9), (4, .int i), (3, .ref o), (2, .ref g), (1, .ref h), (0, .ref b)]) hx hb dL_law_735 hl (by decide) rfl (fun ls hl => ?_)
  refine lv_aload_n hx hb dL_law_737 rfl (lv_at hl 4 rfl) ?_
  have hPm : va_P D vwCl (cMd g r1 r2 dA dB m_cd ct tg fg m_td m_an qE pE m_aT m_aF m_dg m_fi lo) H2 := hP.sub [4, 5, 6] rfl
  refine vp_callSi (va_cr (va_runV (As := []) (rest := []) ⟨hx, hb, hml, hown, hts⟩ (c_X3_thrown l D g r1 r2 dA dB m_cd ct tg fg m_td m_an qE pE m_aT m_aF m_dg m_fi lo) (cwV 0 hts gL_law_X3_thrown rfl rfl rfl kV_X3_thrown ⟨Nat.le_of_ble_eq_true rfl, Nat.le_of_ble_eq_true rfl⟩) ⟨PB.blind, va_recv hKm hPm (ci := 2) (q0 := 0) rfl rfl, PB.pre hKm hPm⟩ rfl rfl hl.1 rfl (lv_room (Nat.le_of_ble_eq_true rfl)) dL_law_738 ⟨rmC (by omega), rmS (by omega)⟩)) (fun r9 e9 => ?_)
  rw [e9]
  refine lv_iload hx hb dL_law_741 (lv_at hl 1 rfl) ?_
  refine lv_icmp_eq (tgt := 748) hx hb dL_law_743 (by decide) (fun c_2 => ?_) (fun c_2 => absurd hk9 c_2)
  refine lv_iload hx hb dL_law_748 (lv_at hl 1 rfl) ?_
  refine lv_if_ne (tgt := 765) hx hb dL_law_750 (by decide) (fun c_3 => ?_) (fun c_3 => ?_)
  · refine lv_goto (tgt := 936) hx hb dL_law_765 (by decide) ?_
    refine W.widen (k := cells + 6) (n := slots + 24) (by omega) (by omega) ?_
    exact K _ _ _ _ _ _ _ _ _ _ _ _ _ _ _ _ _ _ _ _ _ _ _ _ hinv hP hD hS (lv_sub hl [2, 3, 4, 5, 6] rfl)
  · refine lv_aload_n hx hb dL_law_753 rfl (lv_at hl 3 rfl) ?_
    refine lv_iconst (v := 0) hx hb dL_law_754 (by decide) ?_
    refine va_lald hx hb hK hP 3 2 rfl rfl in_01 dL_law_755 ?_
    refine lv_iload hx hb dL_law_756 (lv_at hl 0 rfl) ?_
    refine lv_i2l (v := b9.toInt64) hx hb dL_law_758 rfl ?_
    refine q_cl_eq (tgt := 765) hx hb dL_law_759 dL_law_760 (by decide) (fun c_4 => ?_) (fun c_4 => absurd ((hfo c_3).trans (congrArg Int32.toInt64 (hv9 c_3))) c_4)
    refine lv_goto (tgt := 936) hx hb dL_law_765 (by decide) ?_
    refine W.widen (k := cells + 6) (n := slots + 24) (by omega) (by omega) ?_
    exact K _ _ _ _ _ _ _ _ _ _ _ _ _ _ _ _ _ _ _ _ _ _ _ _ hinv hP hD hS (lv_sub hl [2, 3, 4, 5, 6] rfl)
set_option maxHeartbeats 4000000 in
set_option maxRecDepth 100000 in
theorem law_test {p : Program} {l : Launch} {e : Env} {s : State} {m : MethodId} {below : List Frame} {meth : Method} {c : Code} {b L : Nat} {xs : Nat → Int32} {Q : State → Prop} {D : va_G} {ad : Nat → Nat} (hs : S_test) (C0 : LC p l s m meth c b L xs ad) {j : Nat} {i : Int32} (hi : i.toInt = 5 * (j : Int)) (hj : 5 * j + 5 ≤ L) {cells slots : Nat} (hc6 : cells + 6 ≤ 710647) (hs24 : slots + 24 ≤ 6964162) {h q1 q2 g r1 r2 o : Nat} {cA cB cC dA dB : ClassId} (tf : Nat → Int32) (ff : Nat → Int64) (cw : Int32) (td : Int32) (an : Bool) (qb : Int32) (pa : Bool) (cd : Int32) (ct : Int32) (tg : Nat → Int32) (fg : Nat → Int64) (tE : Int32) (aE : Bool) (qE : Int32) (pE : Bool) (aT : Int32) (aF : Int64) (dg : Int64) (fi : Int32) (lo : Bool) (fo : Nat → Int64) (hinv : INV tf ff cw td an qb pa ct tg fg tE aE qE pE) {H : Heap} {locs : List Loc} (hK : va_K D vwCl (tW cA cB cC dA dB) s) (hP : va_P D vwCl (wW h q1 q2 cA cB tf ff cw td an qb pa o cC fo g r1 r2 dA dB cd ct tg fg tE aE qE pE aT aF dg fi lo) H) (hD : va_D (fun q => s.heap.size ≤ q) (wW h q1 q2 cA cB tf ff cw td an qb pa o cC fo g r1 r2 dA dB cd ct tg fg tE aE qE pE aT aF dg fi lo)) (hS : va_S (fun q => s.heap.size ≤ q) s.heap H locs) {ls : Array Slot} (hl : lv_has ls 7 [(4, .int i), (3, .ref o), (2, .ref g), (1, .ref h), (0, .ref b)]) (K : ∀ (tf : Nat → Int32) (ff : Nat → Int64) (cw : Int32) (td : Int32) (an : Bool) (qb : Int32) (pa : Bool) (cd : Int32) (ct : Int32) (tg : Nat → Int32) (fg : Nat → Int64) (tE : Int32) (aE : Bool) (qE : Int32) (pE : Bool) (aT : Int32) (aF : Int64) (dg : Int64) (fi : Int32) (lo : Bool) (fo : Nat → Int64) (H : Heap) (locs : List Loc) (ls : Array Slot), INV tf ff cw td an qb pa ct tg fg tE aE qE pE → va_P D vwCl (wW h q1 q2 cA cB tf ff cw td an qb pa o cC fo g r1 r2 dA dB cd ct tg fg tE aE qE pE aT aF dg fi lo) H → va_D (fun q => s.heap.size ≤ q) (wW h q1 q2 cA cB tf ff cw td an qb pa o cC fo g r1 r2 dA dB cd ct tg fg tE aE qE pE aT aF dg fi lo) → va_S (fun q => s.heap.size ≤ q) s.heap H locs → lv_has ls 7 [(4, .int i), (3, .ref o), (2, .ref g), (1, .ref h), (0, .ref b)] → W p l e room_1 s m #[Value.ref b] below meth c H locs (cells + 6) (slots + 24) Q (F0 m 936 ls [])) : W p l e room_1 s m #[Value.ref b] below meth c H locs cells slots Q (F0 m 768 ls []) := by
  obtain ⟨hx, hb, hr, hml, hown, hts, hX, hbl, hlocks, hE, hDW, hl9, hL⟩ := C0
  have hA : ∀ q : Nat, s.heap.size ≤ q → (fun q : Nat => s.heap.size ≤ q) q := fun _ h => h
  have hbA : ¬ (fun q : Nat => s.heap.size ≤ q) b := Nat.not_le.mpr hbl
  refine lv_aload_n hx hb dL_law_768 rfl (lv_at hl 3 rfl) ?_
  refine lv_aload_n hx hb dL_law_769 rfl (lv_at hl 4 rfl) ?_
  refine lv_iload hx hb dL_law_770 (lv_at hl 0 rfl) ?_
  refine lv_iconst (v := 1) hx hb dL_law_772 (by decide) ?_
  refine lv_iadd hx hb dL_law_773 ?_
  refine va_sld hx hb hX hbl hbA hS (idx_in hi hj hL (by decide)) dL_law_774 ?_
  refine lv_aload_n hx hb dL_law_775 rfl (lv_at hl 1 rfl) ?_
  have hKc : va_K D vwCl (tL cA cB cC) s := hK.sub [0, 1, 2] rfl
  have hPc : va_P D vwCl (cL h q1 q2 cA cB tf ff cw td an qb pa o cC fo) H := hP.sub [0, 1, 2, 3] rfl
  have hDc : va_D (fun q => s.heap.size ≤ q) (cL h q1 q2 cA cB tf ff cw td an qb pa o cC fo) := hD.sub [0, 1, 2, 3] (by decide) rfl
  have hFc := va_free (wc := cL h q1 q2 cA cB tf ff cw td an qb pa o cC fo) hD hS hA [0, 1, 2, 3] rfl
  refine va_calli (vx_runSW (As := [.ref h, .int (xs (i + 1).toNatClampNeg), .ref o]) (rest := []) ⟨hx, hb, hml, hown, hts⟩ (c_L_test l hl9 D ad h q1 q2 cA cB tf ff cw td an qb pa o cC fo (xs (i + 1).toNatClampNeg) H.size) (vx_cwSW 3 hts gL_law_L_test rfl rfl rfl kS_L_test ⟨Nat.le_of_ble_eq_true rfl, Nat.le_of_ble_eq_true rfl⟩) ⟨TXB.blind MRB.blind, TXB.pre (MRB.pre hKc hPc hDc vP_nil ap_nil hE hS hFc) hDW⟩ rfl rfl hl.1 rfl (lv_room (Nat.le_of_ble_eq_true rfl)) dL_law_776 ⟨rmC (by omega), rmS (by omega)⟩) hS (fun q _ h9 => hFc q h9) hFc (fun k9 u9 t9 H1 locs1 ht hvm hw hB hz1 hk1 hS => ?_)
  obtain rfl := hw
  obtain ⟨v9, o_td, o_an, fo9, hq, hfo, hP1, hD1⟩ := hB
  rw [ht] at hP1
  obtain ⟨hP, hD⟩ := va_join (wr := cMd g r1 r2 dA dB cd ct tg fg tE aE qE pE aT aF dg fi lo) (w1 := cL h q1 q2 cA cB tf ff cw o_td o_an qb pa o cC fo9) hP hD [0, 1, 2, 3] [4, 5, 6] rfl rfl (by decide) (by decide) hk1 hFc hP1 hD1
  have hP : va_P D vwCl (wW h q1 q2 cA cB tf ff cw o_td o_an qb pa o cC fo9 g r1 r2 dA dB cd ct tg fg tE aE qE pE aT aF dg fi lo) H1 := hP.sub [3, 4, 5, 6, 0, 1, 2] rfl
  have hD : va_D (fun q => s.heap.size ≤ q) (wW h q1 q2 cA cB tf ff cw o_td o_an qb pa o cC fo9 g r1 r2 dA dB cd ct tg fg tE aE qE pE aT aF dg fi lo) := hD.sub [3, 4, 5, 6, 0, 1, 2] (by decide) rfl
  refine lv_istore (lv' := [(5, .int k9), (4, .int i), (3, .ref o), (2, .ref g), (1, .ref h), (0, .ref b)]) hx hb dL_law_779 hl (by decide) rfl (fun ls hl => ?_)
  refine lv_aload_n hx hb dL_law_781 rfl (lv_at hl 3 rfl) ?_
  refine lv_aload_n hx hb dL_law_782 rfl (lv_at hl 5 rfl) ?_
  refine lv_iload hx hb dL_law_783 (lv_at hl 1 rfl) ?_
  refine lv_iconst (v := 1) hx hb dL_law_785 (by decide) ?_
  refine lv_iadd hx hb dL_law_786 ?_
  refine va_sld hx hb hX hbl hbA hS (idx_in hi hj hL (by decide)) dL_law_787 ?_
  have hKm : va_K D vwCl (tRS dA dB) s := hK.sub [3, 4] rfl
  have hPm : va_P D vwCl (cMd g r1 r2 dA dB cd ct tg fg tE aE qE pE aT aF dg fi lo) H1 := hP.sub [4, 5, 6] rfl
  have hDm : va_D (fun q => s.heap.size ≤ q) (cMd g r1 r2 dA dB cd ct tg fg tE aE qE pE aT aF dg fi lo) := hD.sub [4, 5, 6] (by decide) rfl
  have hFm := va_free (wc := cMd g r1 r2 dA dB cd ct tg fg tE aE qE pE aT aF dg fi lo) hD hS hA [4, 5, 6] rfl
  refine va_calli (va_runV (As := [.int (xs (i + 1).toNatClampNeg)]) (rest := []) ⟨hx, hb, hml, hown, hts⟩ (c_X3_test l D g r1 r2 dA dB cd ct tg fg tE aE qE pE aT aF dg fi lo (xs (i + 1).toNatClampNeg) H1.size) (cwV 1 hts gL_law_X3_test rfl rfl rfl kV_X3_test ⟨Nat.le_of_ble_eq_true rfl, Nat.le_of_ble_eq_true rfl⟩) ⟨MMB.blind, va_recv hKm hPm (ci := 2) (q0 := 0) rfl rfl, MMB.pre hKm hPm hDm⟩ rfl rfl hl.1 rfl (lv_room (Nat.le_of_ble_eq_true rfl)) dL_law_788 ⟨rmC (by omega), rmS (by omega)⟩) hS (fun q _ h9 => hFm q h9) hFm (fun b9 u9 t9 H2 locs2 ht hvm hw hB hz1 hk1 hS => ?_)
  obtain rfl := hw
  obtain ⟨m_cd, m_td, m_an, m_aT, m_aF, m_dg, m_fi, hm, hP1, hD1⟩ := hB
  rw [ht] at hP1
  obtain ⟨hP, hD⟩ := va_join (wr := cL h q1 q2 cA cB tf ff cw o_td o_an qb pa o cC fo9) (w1 := cMd g r1 r2 dA dB m_cd ct tg fg m_td m_an qE pE m_aT m_aF m_dg m_fi lo) hP hD [4, 5, 6] [0, 1, 2, 3] rfl rfl (by decide) (by decide) hk1 hFm hP1 hD1
  have hP : va_P D vwCl (wW h q1 q2 cA cB tf ff cw o_td o_an qb pa o cC fo9 g r1 r2 dA dB m_cd ct tg fg m_td m_an qE pE m_aT m_aF m_dg m_fi lo) H2 := hP
  have hD : va_D (fun q => s.heap.size ≤ q) (wW h q1 q2 cA cB tf ff cw o_td o_an qb pa o cC fo9 g r1 r2 dA dB m_cd ct tg fg m_td m_an qE pE m_aT m_aF m_dg m_fi lo) := hD
  obtain ⟨hk9, hv9, hinv⟩ := hs tf ff cw td an qb pa cd ct tg fg tE aE qE pE aT aF dg fi lo (xs (i + 1).toNatClampNeg) hinv _ _ _ _ _ _ _ _ _ _ _ _ hq hm
  refine lv_istore (lv' := [(6, .int b9), (5, .int k9), (4, .int i), (3, .ref o), (2, .ref g), (1, .ref h), (0, .ref b)]) hx hb dL_law_791 hl (by decide) rfl (fun ls hl => ?_)
  refine lv_aload_n hx hb dL_law_793 rfl (lv_at hl 4 rfl) ?_
  have hPm : va_P D vwCl (cMd g r1 r2 dA dB m_cd ct tg fg m_td m_an qE pE m_aT m_aF m_dg m_fi lo) H2 := hP.sub [4, 5, 6] rfl
  refine vp_callSi (va_cr (va_runV (As := []) (rest := []) ⟨hx, hb, hml, hown, hts⟩ (c_X3_thrown l D g r1 r2 dA dB m_cd ct tg fg m_td m_an qE pE m_aT m_aF m_dg m_fi lo) (cwV 0 hts gL_law_X3_thrown rfl rfl rfl kV_X3_thrown ⟨Nat.le_of_ble_eq_true rfl, Nat.le_of_ble_eq_true rfl⟩) ⟨PB.blind, va_recv hKm hPm (ci := 2) (q0 := 0) rfl rfl, PB.pre hKm hPm⟩ rfl rfl hl.1 rfl (lv_room (Nat.le_of_ble_eq_true rfl)) dL_law_794 ⟨rmC (by omega), rmS (by omega)⟩)) (fun r9 e9 => ?_)
  rw [e9]
  refine lv_iload hx hb dL_law_797 (lv_at hl 1 rfl) ?_
  refine lv_icmp_eq (tgt := 804) hx hb dL_law_799 (by decide) (fun c_2 => ?_) (fun c_2 => absurd hk9 c_2)
  refine lv_iload hx hb dL_law_804 (lv_at hl 1 rfl) ?_
  refine lv_if_ne (tgt := 821) hx hb dL_law_806 (by decide) (fun c_3 => ?_) (fun c_3 => ?_)
  · refine lv_goto (tgt := 936) hx hb dL_law_821 (by decide) ?_
    refine W.widen (k := cells + 6) (n := slots + 24) (by omega) (by omega) ?_
    exact K _ _ _ _ _ _ _ _ _ _ _ _ _ _ _ _ _ _ _ _ _ _ _ _ hinv hP hD hS (lv_sub hl [2, 3, 4, 5, 6] rfl)
  · refine lv_aload_n hx hb dL_law_809 rfl (lv_at hl 3 rfl) ?_
    refine lv_iconst (v := 0) hx hb dL_law_810 (by decide) ?_
    refine va_lald hx hb hK hP 3 2 rfl rfl in_01 dL_law_811 ?_
    refine lv_iload hx hb dL_law_812 (lv_at hl 0 rfl) ?_
    refine lv_i2l (v := b9.toInt64) hx hb dL_law_814 rfl ?_
    refine q_cl_eq (tgt := 821) hx hb dL_law_815 dL_law_816 (by decide) (fun c_4 => ?_) (fun c_4 => absurd ((hfo c_3).trans (congrArg Int32.toInt64 (hv9 c_3))) c_4)
    refine lv_goto (tgt := 936) hx hb dL_law_821 (by decide) ?_
    refine W.widen (k := cells + 6) (n := slots + 24) (by omega) (by omega) ?_
    exact K _ _ _ _ _ _ _ _ _ _ _ _ _ _ _ _ _ _ _ _ _ _ _ _ hinv hP hD hS (lv_sub hl [2, 3, 4, 5, 6] rfl)
set_option maxHeartbeats 4000000 in
set_option maxRecDepth 100000 in
theorem law_examine {p : Program} {l : Launch} {e : Env} {s : State} {m : MethodId} {below : List Frame} {meth : Method} {c : Code} {b L : Nat} {xs : Nat → Int32} {Q : State → Prop} {D : va_G} {ad : Nat → Nat} (hs : S_examine) (C0 : LC p l s m meth c b L xs ad) {j : Nat} {i : Int32} (hi : i.toInt = 5 * (j : Int)) (hj : 5 * j + 5 ≤ L) {cells slots : Nat} (hc6 : cells + 6 ≤ 710647) (hs24 : slots + 24 ≤ 6964162) {h q1 q2 g r1 r2 o : Nat} {cA cB cC dA dB : ClassId} (tf : Nat → Int32) (ff : Nat → Int64) (cw : Int32) (td : Int32) (an : Bool) (qb : Int32) (pa : Bool) (cd : Int32) (ct : Int32) (tg : Nat → Int32) (fg : Nat → Int64) (tE : Int32) (aE : Bool) (qE : Int32) (pE : Bool) (aT : Int32) (aF : Int64) (dg : Int64) (fi : Int32) (lo : Bool) (fo : Nat → Int64) (hinv : INV tf ff cw td an qb pa ct tg fg tE aE qE pE) {H : Heap} {locs : List Loc} (hK : va_K D vwCl (tW cA cB cC dA dB) s) (hP : va_P D vwCl (wW h q1 q2 cA cB tf ff cw td an qb pa o cC fo g r1 r2 dA dB cd ct tg fg tE aE qE pE aT aF dg fi lo) H) (hD : va_D (fun q => s.heap.size ≤ q) (wW h q1 q2 cA cB tf ff cw td an qb pa o cC fo g r1 r2 dA dB cd ct tg fg tE aE qE pE aT aF dg fi lo)) (hS : va_S (fun q => s.heap.size ≤ q) s.heap H locs) {ls : Array Slot} (hl : lv_has ls 7 [(4, .int i), (3, .ref o), (2, .ref g), (1, .ref h), (0, .ref b)]) (K : ∀ (tf : Nat → Int32) (ff : Nat → Int64) (cw : Int32) (td : Int32) (an : Bool) (qb : Int32) (pa : Bool) (cd : Int32) (ct : Int32) (tg : Nat → Int32) (fg : Nat → Int64) (tE : Int32) (aE : Bool) (qE : Int32) (pE : Bool) (aT : Int32) (aF : Int64) (dg : Int64) (fi : Int32) (lo : Bool) (fo : Nat → Int64) (H : Heap) (locs : List Loc) (ls : Array Slot), INV tf ff cw td an qb pa ct tg fg tE aE qE pE → va_P D vwCl (wW h q1 q2 cA cB tf ff cw td an qb pa o cC fo g r1 r2 dA dB cd ct tg fg tE aE qE pE aT aF dg fi lo) H → va_D (fun q => s.heap.size ≤ q) (wW h q1 q2 cA cB tf ff cw td an qb pa o cC fo g r1 r2 dA dB cd ct tg fg tE aE qE pE aT aF dg fi lo) → va_S (fun q => s.heap.size ≤ q) s.heap H locs → lv_has ls 7 [(4, .int i), (3, .ref o), (2, .ref g), (1, .ref h), (0, .ref b)] → W p l e room_1 s m #[Value.ref b] below meth c H locs (cells + 6) (slots + 24) Q (F0 m 936 ls [])) : W p l e room_1 s m #[Value.ref b] below meth c H locs cells slots Q (F0 m 824 ls []) := by
  obtain ⟨hx, hb, hr, hml, hown, hts, hX, hbl, hlocks, hE, hDW, hl9, hL⟩ := C0
  have hA : ∀ q : Nat, s.heap.size ≤ q → (fun q : Nat => s.heap.size ≤ q) q := fun _ h => h
  have hbA : ¬ (fun q : Nat => s.heap.size ≤ q) b := Nat.not_le.mpr hbl
  refine lv_aload_n hx hb dL_law_824 rfl (lv_at hl 3 rfl) ?_
  refine lv_aload_n hx hb dL_law_825 rfl (lv_at hl 4 rfl) ?_
  refine lv_iload hx hb dL_law_826 (lv_at hl 0 rfl) ?_
  refine lv_iconst (v := 1) hx hb dL_law_828 (by decide) ?_
  refine lv_iadd hx hb dL_law_829 ?_
  refine va_sld hx hb hX hbl hbA hS (idx_in hi hj hL (by decide)) dL_law_830 ?_
  refine lv_aload_n hx hb dL_law_831 rfl (lv_at hl 1 rfl) ?_
  have hKc : va_K D vwCl (tL cA cB cC) s := hK.sub [0, 1, 2] rfl
  have hPc : va_P D vwCl (cL h q1 q2 cA cB tf ff cw td an qb pa o cC fo) H := hP.sub [0, 1, 2, 3] rfl
  have hDc : va_D (fun q => s.heap.size ≤ q) (cL h q1 q2 cA cB tf ff cw td an qb pa o cC fo) := hD.sub [0, 1, 2, 3] (by decide) rfl
  have hFc := va_free (wc := cL h q1 q2 cA cB tf ff cw td an qb pa o cC fo) hD hS hA [0, 1, 2, 3] rfl
  refine va_calli (vx_runSW (As := [.ref h, .int (xs (i + 1).toNatClampNeg), .ref o]) (rest := []) ⟨hx, hb, hml, hown, hts⟩ (c_L_examine l hl9 D ad h q1 q2 cA cB tf ff cw td an qb pa o cC fo (xs (i + 1).toNatClampNeg) H.size) (vx_cwSW 3 hts gL_law_L_examine rfl rfl rfl kS_L_examine ⟨Nat.le_of_ble_eq_true rfl, Nat.le_of_ble_eq_true rfl⟩) ⟨TXB.blind MRB.blind, TXB.pre (MRB.pre hKc hPc hDc vP_nil ap_nil hE hS hFc) hDW⟩ rfl rfl hl.1 rfl (lv_room (Nat.le_of_ble_eq_true rfl)) dL_law_832 ⟨rmC (by omega), rmS (by omega)⟩) hS (fun q _ h9 => hFc q h9) hFc (fun k9 u9 t9 H1 locs1 ht hvm hw hB hz1 hk1 hS => ?_)
  obtain rfl := hw
  obtain ⟨v9, fo9, hq, hfo, hP1, hD1⟩ := hB
  rw [ht] at hP1
  obtain ⟨hP, hD⟩ := va_join (wr := cMd g r1 r2 dA dB cd ct tg fg tE aE qE pE aT aF dg fi lo) (w1 := cL h q1 q2 cA cB tf ff cw td an qb pa o cC fo9) hP hD [0, 1, 2, 3] [4, 5, 6] rfl rfl (by decide) (by decide) hk1 hFc hP1 hD1
  have hP : va_P D vwCl (wW h q1 q2 cA cB tf ff cw td an qb pa o cC fo9 g r1 r2 dA dB cd ct tg fg tE aE qE pE aT aF dg fi lo) H1 := hP.sub [3, 4, 5, 6, 0, 1, 2] rfl
  have hD : va_D (fun q => s.heap.size ≤ q) (wW h q1 q2 cA cB tf ff cw td an qb pa o cC fo9 g r1 r2 dA dB cd ct tg fg tE aE qE pE aT aF dg fi lo) := hD.sub [3, 4, 5, 6, 0, 1, 2] (by decide) rfl
  refine lv_istore (lv' := [(5, .int k9), (4, .int i), (3, .ref o), (2, .ref g), (1, .ref h), (0, .ref b)]) hx hb dL_law_835 hl (by decide) rfl (fun ls hl => ?_)
  refine lv_aload_n hx hb dL_law_837 rfl (lv_at hl 3 rfl) ?_
  refine lv_aload_n hx hb dL_law_838 rfl (lv_at hl 5 rfl) ?_
  refine lv_iload hx hb dL_law_839 (lv_at hl 1 rfl) ?_
  refine lv_iconst (v := 1) hx hb dL_law_841 (by decide) ?_
  refine lv_iadd hx hb dL_law_842 ?_
  refine va_sld hx hb hX hbl hbA hS (idx_in hi hj hL (by decide)) dL_law_843 ?_
  have hKm : va_K D vwCl (tRS dA dB) s := hK.sub [3, 4] rfl
  have hPm : va_P D vwCl (cMd g r1 r2 dA dB cd ct tg fg tE aE qE pE aT aF dg fi lo) H1 := hP.sub [4, 5, 6] rfl
  have hDm : va_D (fun q => s.heap.size ≤ q) (cMd g r1 r2 dA dB cd ct tg fg tE aE qE pE aT aF dg fi lo) := hD.sub [4, 5, 6] (by decide) rfl
  have hFm := va_free (wc := cMd g r1 r2 dA dB cd ct tg fg tE aE qE pE aT aF dg fi lo) hD hS hA [4, 5, 6] rfl
  refine va_calli (va_runV (As := [.int (xs (i + 1).toNatClampNeg)]) (rest := []) ⟨hx, hb, hml, hown, hts⟩ (c_X3_examine l D g r1 r2 dA dB cd ct tg fg tE aE qE pE aT aF dg fi lo (xs (i + 1).toNatClampNeg) H1.size) (cwV 1 hts gL_law_X3_examine rfl rfl rfl kV_X3_examine ⟨Nat.le_of_ble_eq_true rfl, Nat.le_of_ble_eq_true rfl⟩) ⟨MMB.blind, va_recv hKm hPm (ci := 2) (q0 := 0) rfl rfl, MMB.pre hKm hPm hDm⟩ rfl rfl hl.1 rfl (lv_room (Nat.le_of_ble_eq_true rfl)) dL_law_844 ⟨rmC (by omega), rmS (by omega)⟩) hS (fun q _ h9 => hFm q h9) hFm (fun b9 u9 t9 H2 locs2 ht hvm hw hB hz1 hk1 hS => ?_)
  obtain rfl := hw
  obtain ⟨m_cd, hm, hP1, hD1⟩ := hB
  rw [ht] at hP1
  obtain ⟨hP, hD⟩ := va_join (wr := cL h q1 q2 cA cB tf ff cw td an qb pa o cC fo9) (w1 := cMd g r1 r2 dA dB m_cd ct tg fg tE aE qE pE aT aF dg fi lo) hP hD [4, 5, 6] [0, 1, 2, 3] rfl rfl (by decide) (by decide) hk1 hFm hP1 hD1
  have hP : va_P D vwCl (wW h q1 q2 cA cB tf ff cw td an qb pa o cC fo9 g r1 r2 dA dB m_cd ct tg fg tE aE qE pE aT aF dg fi lo) H2 := hP
  have hD : va_D (fun q => s.heap.size ≤ q) (wW h q1 q2 cA cB tf ff cw td an qb pa o cC fo9 g r1 r2 dA dB m_cd ct tg fg tE aE qE pE aT aF dg fi lo) := hD
  obtain ⟨hk9, hv9, hinv⟩ := hs tf ff cw td an qb pa cd ct tg fg tE aE qE pE aT aF dg fi lo (xs (i + 1).toNatClampNeg) hinv _ _ _ _ hq hm
  refine lv_istore (lv' := [(6, .int b9), (5, .int k9), (4, .int i), (3, .ref o), (2, .ref g), (1, .ref h), (0, .ref b)]) hx hb dL_law_847 hl (by decide) rfl (fun ls hl => ?_)
  refine lv_aload_n hx hb dL_law_849 rfl (lv_at hl 4 rfl) ?_
  have hPm : va_P D vwCl (cMd g r1 r2 dA dB m_cd ct tg fg tE aE qE pE aT aF dg fi lo) H2 := hP.sub [4, 5, 6] rfl
  refine vp_callSi (va_cr (va_runV (As := []) (rest := []) ⟨hx, hb, hml, hown, hts⟩ (c_X3_thrown l D g r1 r2 dA dB m_cd ct tg fg tE aE qE pE aT aF dg fi lo) (cwV 0 hts gL_law_X3_thrown rfl rfl rfl kV_X3_thrown ⟨Nat.le_of_ble_eq_true rfl, Nat.le_of_ble_eq_true rfl⟩) ⟨PB.blind, va_recv hKm hPm (ci := 2) (q0 := 0) rfl rfl, PB.pre hKm hPm⟩ rfl rfl hl.1 rfl (lv_room (Nat.le_of_ble_eq_true rfl)) dL_law_850 ⟨rmC (by omega), rmS (by omega)⟩)) (fun r9 e9 => ?_)
  rw [e9]
  refine lv_iload hx hb dL_law_853 (lv_at hl 1 rfl) ?_
  refine lv_icmp_eq (tgt := 860) hx hb dL_law_855 (by decide) (fun c_2 => ?_) (fun c_2 => absurd hk9 c_2)
  refine lv_iload hx hb dL_law_860 (lv_at hl 1 rfl) ?_
  refine lv_if_ne (tgt := 877) hx hb dL_law_862 (by decide) (fun c_3 => ?_) (fun c_3 => ?_)
  · refine lv_goto (tgt := 936) hx hb dL_law_877 (by decide) ?_
    refine W.widen (k := cells + 6) (n := slots + 24) (by omega) (by omega) ?_
    exact K _ _ _ _ _ _ _ _ _ _ _ _ _ _ _ _ _ _ _ _ _ _ _ _ hinv hP hD hS (lv_sub hl [2, 3, 4, 5, 6] rfl)
  · refine lv_aload_n hx hb dL_law_865 rfl (lv_at hl 3 rfl) ?_
    refine lv_iconst (v := 0) hx hb dL_law_866 (by decide) ?_
    refine va_lald hx hb hK hP 3 2 rfl rfl in_01 dL_law_867 ?_
    refine lv_iload hx hb dL_law_868 (lv_at hl 0 rfl) ?_
    refine lv_i2l (v := b9.toInt64) hx hb dL_law_870 rfl ?_
    refine q_cl_eq (tgt := 877) hx hb dL_law_871 dL_law_872 (by decide) (fun c_4 => ?_) (fun c_4 => absurd ((hfo c_3).trans (congrArg Int32.toInt64 (hv9 c_3))) c_4)
    refine lv_goto (tgt := 936) hx hb dL_law_877 (by decide) ?_
    refine W.widen (k := cells + 6) (n := slots + 24) (by omega) (by omega) ?_
    exact K _ _ _ _ _ _ _ _ _ _ _ _ _ _ _ _ _ _ _ _ _ _ _ _ hinv hP hD hS (lv_sub hl [2, 3, 4, 5, 6] rfl)
set_option maxHeartbeats 4000000 in
set_option maxRecDepth 100000 in
theorem law_told {p : Program} {l : Launch} {e : Env} {s : State} {m : MethodId} {below : List Frame} {meth : Method} {c : Code} {b L : Nat} {xs : Nat → Int32} {Q : State → Prop} {D : va_G} {ad : Nat → Nat} (hs : S_told) (C0 : LC p l s m meth c b L xs ad) {j : Nat} {i : Int32} (hi : i.toInt = 5 * (j : Int)) (hj : 5 * j + 5 ≤ L) {cells slots : Nat} (hc6 : cells + 6 ≤ 710647) (hs24 : slots + 24 ≤ 6964162) {h q1 q2 g r1 r2 o : Nat} {cA cB cC dA dB : ClassId} (tf : Nat → Int32) (ff : Nat → Int64) (cw : Int32) (td : Int32) (an : Bool) (qb : Int32) (pa : Bool) (cd : Int32) (ct : Int32) (tg : Nat → Int32) (fg : Nat → Int64) (tE : Int32) (aE : Bool) (qE : Int32) (pE : Bool) (aT : Int32) (aF : Int64) (dg : Int64) (fi : Int32) (lo : Bool) (fo : Nat → Int64) (hinv : INV tf ff cw td an qb pa ct tg fg tE aE qE pE) {H : Heap} {locs : List Loc} (hK : va_K D vwCl (tW cA cB cC dA dB) s) (hP : va_P D vwCl (wW h q1 q2 cA cB tf ff cw td an qb pa o cC fo g r1 r2 dA dB cd ct tg fg tE aE qE pE aT aF dg fi lo) H) (hD : va_D (fun q => s.heap.size ≤ q) (wW h q1 q2 cA cB tf ff cw td an qb pa o cC fo g r1 r2 dA dB cd ct tg fg tE aE qE pE aT aF dg fi lo)) (hS : va_S (fun q => s.heap.size ≤ q) s.heap H locs) {ls : Array Slot} (hl : lv_has ls 7 [(4, .int i), (3, .ref o), (2, .ref g), (1, .ref h), (0, .ref b)]) (K : ∀ (tf : Nat → Int32) (ff : Nat → Int64) (cw : Int32) (td : Int32) (an : Bool) (qb : Int32) (pa : Bool) (cd : Int32) (ct : Int32) (tg : Nat → Int32) (fg : Nat → Int64) (tE : Int32) (aE : Bool) (qE : Int32) (pE : Bool) (aT : Int32) (aF : Int64) (dg : Int64) (fi : Int32) (lo : Bool) (fo : Nat → Int64) (H : Heap) (locs : List Loc) (ls : Array Slot), INV tf ff cw td an qb pa ct tg fg tE aE qE pE → va_P D vwCl (wW h q1 q2 cA cB tf ff cw td an qb pa o cC fo g r1 r2 dA dB cd ct tg fg tE aE qE pE aT aF dg fi lo) H → va_D (fun q => s.heap.size ≤ q) (wW h q1 q2 cA cB tf ff cw td an qb pa o cC fo g r1 r2 dA dB cd ct tg fg tE aE qE pE aT aF dg fi lo) → va_S (fun q => s.heap.size ≤ q) s.heap H locs → lv_has ls 7 [(4, .int i), (3, .ref o), (2, .ref g), (1, .ref h), (0, .ref b)] → W p l e room_1 s m #[Value.ref b] below meth c H locs (cells + 6) (slots + 24) Q (F0 m 936 ls [])) : W p l e room_1 s m #[Value.ref b] below meth c H locs cells slots Q (F0 m 880 ls []) := by
  obtain ⟨hx, hb, hr, hml, hown, hts, hX, hbl, hlocks, hE, hDW, hl9, hL⟩ := C0
  have hA : ∀ q : Nat, s.heap.size ≤ q → (fun q : Nat => s.heap.size ≤ q) q := fun _ h => h
  have hbA : ¬ (fun q : Nat => s.heap.size ≤ q) b := Nat.not_le.mpr hbl
  refine lv_aload_n hx hb dL_law_880 rfl (lv_at hl 3 rfl) ?_
  refine lv_aload_n hx hb dL_law_881 rfl (lv_at hl 4 rfl) ?_
  refine lv_iload hx hb dL_law_882 (lv_at hl 0 rfl) ?_
  refine lv_iconst (v := 1) hx hb dL_law_884 (by decide) ?_
  refine lv_iadd hx hb dL_law_885 ?_
  refine va_sld hx hb hX hbl hbA hS (idx_in hi hj hL (by decide)) dL_law_886 ?_
  refine lv_aload_n hx hb dL_law_887 rfl (lv_at hl 1 rfl) ?_
  have hKc : va_K D vwCl (tL cA cB cC) s := hK.sub [0, 1, 2] rfl
  have hPc : va_P D vwCl (cL h q1 q2 cA cB tf ff cw td an qb pa o cC fo) H := hP.sub [0, 1, 2, 3] rfl
  have hDc : va_D (fun q => s.heap.size ≤ q) (cL h q1 q2 cA cB tf ff cw td an qb pa o cC fo) := hD.sub [0, 1, 2, 3] (by decide) rfl
  have hFc := va_free (wc := cL h q1 q2 cA cB tf ff cw td an qb pa o cC fo) hD hS hA [0, 1, 2, 3] rfl
  refine va_calli (vx_runSW (As := [.ref h, .int (xs (i + 1).toNatClampNeg), .ref o]) (rest := []) ⟨hx, hb, hml, hown, hts⟩ (c_L_told l hl9 D ad h q1 q2 cA cB tf ff cw td an qb pa o cC fo (xs (i + 1).toNatClampNeg) H.size) (vx_cwSW 3 hts gL_law_L_told rfl rfl rfl kS_L_told ⟨Nat.le_of_ble_eq_true rfl, Nat.le_of_ble_eq_true rfl⟩) ⟨TXB.blind MRB.blind, TXB.pre (MRB.pre hKc hPc hDc vP_nil ap_nil hE hS hFc) hDW⟩ rfl rfl hl.1 rfl (lv_room (Nat.le_of_ble_eq_true rfl)) dL_law_888 ⟨rmC (by omega), rmS (by omega)⟩) hS (fun q _ h9 => hFc q h9) hFc (fun k9 u9 t9 H1 locs1 ht hvm hw hB hz1 hk1 hS => ?_)
  obtain rfl := hw
  obtain ⟨v9, fo9, hq, hfo, hP1, hD1⟩ := hB
  rw [ht] at hP1
  obtain ⟨hP, hD⟩ := va_join (wr := cMd g r1 r2 dA dB cd ct tg fg tE aE qE pE aT aF dg fi lo) (w1 := cL h q1 q2 cA cB tf ff cw td an qb pa o cC fo9) hP hD [0, 1, 2, 3] [4, 5, 6] rfl rfl (by decide) (by decide) hk1 hFc hP1 hD1
  have hP : va_P D vwCl (wW h q1 q2 cA cB tf ff cw td an qb pa o cC fo9 g r1 r2 dA dB cd ct tg fg tE aE qE pE aT aF dg fi lo) H1 := hP.sub [3, 4, 5, 6, 0, 1, 2] rfl
  have hD : va_D (fun q => s.heap.size ≤ q) (wW h q1 q2 cA cB tf ff cw td an qb pa o cC fo9 g r1 r2 dA dB cd ct tg fg tE aE qE pE aT aF dg fi lo) := hD.sub [3, 4, 5, 6, 0, 1, 2] (by decide) rfl
  refine lv_istore (lv' := [(5, .int k9), (4, .int i), (3, .ref o), (2, .ref g), (1, .ref h), (0, .ref b)]) hx hb dL_law_891 hl (by decide) rfl (fun ls hl => ?_)
  refine lv_aload_n hx hb dL_law_893 rfl (lv_at hl 3 rfl) ?_
  refine lv_aload_n hx hb dL_law_894 rfl (lv_at hl 5 rfl) ?_
  refine lv_iload hx hb dL_law_895 (lv_at hl 1 rfl) ?_
  refine lv_iconst (v := 1) hx hb dL_law_897 (by decide) ?_
  refine lv_iadd hx hb dL_law_898 ?_
  refine va_sld hx hb hX hbl hbA hS (idx_in hi hj hL (by decide)) dL_law_899 ?_
  have hKm : va_K D vwCl (tRS dA dB) s := hK.sub [3, 4] rfl
  have hPm : va_P D vwCl (cMd g r1 r2 dA dB cd ct tg fg tE aE qE pE aT aF dg fi lo) H1 := hP.sub [4, 5, 6] rfl
  have hDm : va_D (fun q => s.heap.size ≤ q) (cMd g r1 r2 dA dB cd ct tg fg tE aE qE pE aT aF dg fi lo) := hD.sub [4, 5, 6] (by decide) rfl
  have hFm := va_free (wc := cMd g r1 r2 dA dB cd ct tg fg tE aE qE pE aT aF dg fi lo) hD hS hA [4, 5, 6] rfl
  refine va_calli (va_runV (As := [.int (xs (i + 1).toNatClampNeg)]) (rest := []) ⟨hx, hb, hml, hown, hts⟩ (c_X3_told l D g r1 r2 dA dB cd ct tg fg tE aE qE pE aT aF dg fi lo (xs (i + 1).toNatClampNeg) H1.size) (cwV 1 hts gL_law_X3_told rfl rfl rfl kV_X3_told ⟨Nat.le_of_ble_eq_true rfl, Nat.le_of_ble_eq_true rfl⟩) ⟨MMB.blind, va_recv hKm hPm (ci := 2) (q0 := 0) rfl rfl, MMB.pre hKm hPm hDm⟩ rfl rfl hl.1 rfl (lv_room (Nat.le_of_ble_eq_true rfl)) dL_law_900 ⟨rmC (by omega), rmS (by omega)⟩) hS (fun q _ h9 => hFm q h9) hFm (fun b9 u9 t9 H2 locs2 ht hvm hw hB hz1 hk1 hS => ?_)
  obtain rfl := hw
  obtain ⟨m_cd, hm, hP1, hD1⟩ := hB
  rw [ht] at hP1
  obtain ⟨hP, hD⟩ := va_join (wr := cL h q1 q2 cA cB tf ff cw td an qb pa o cC fo9) (w1 := cMd g r1 r2 dA dB m_cd ct tg fg tE aE qE pE aT aF dg fi lo) hP hD [4, 5, 6] [0, 1, 2, 3] rfl rfl (by decide) (by decide) hk1 hFm hP1 hD1
  have hP : va_P D vwCl (wW h q1 q2 cA cB tf ff cw td an qb pa o cC fo9 g r1 r2 dA dB m_cd ct tg fg tE aE qE pE aT aF dg fi lo) H2 := hP
  have hD : va_D (fun q => s.heap.size ≤ q) (wW h q1 q2 cA cB tf ff cw td an qb pa o cC fo9 g r1 r2 dA dB m_cd ct tg fg tE aE qE pE aT aF dg fi lo) := hD
  obtain ⟨hk9, hv9, hinv⟩ := hs tf ff cw td an qb pa cd ct tg fg tE aE qE pE aT aF dg fi lo (xs (i + 1).toNatClampNeg) hinv _ _ _ _ hq hm
  refine lv_istore (lv' := [(6, .int b9), (5, .int k9), (4, .int i), (3, .ref o), (2, .ref g), (1, .ref h), (0, .ref b)]) hx hb dL_law_903 hl (by decide) rfl (fun ls hl => ?_)
  refine lv_aload_n hx hb dL_law_905 rfl (lv_at hl 4 rfl) ?_
  have hPm : va_P D vwCl (cMd g r1 r2 dA dB m_cd ct tg fg tE aE qE pE aT aF dg fi lo) H2 := hP.sub [4, 5, 6] rfl
  refine vp_callSi (va_cr (va_runV (As := []) (rest := []) ⟨hx, hb, hml, hown, hts⟩ (c_X3_thrown l D g r1 r2 dA dB m_cd ct tg fg tE aE qE pE aT aF dg fi lo) (cwV 0 hts gL_law_X3_thrown rfl rfl rfl kV_X3_thrown ⟨Nat.le_of_ble_eq_true rfl, Nat.le_of_ble_eq_true rfl⟩) ⟨PB.blind, va_recv hKm hPm (ci := 2) (q0 := 0) rfl rfl, PB.pre hKm hPm⟩ rfl rfl hl.1 rfl (lv_room (Nat.le_of_ble_eq_true rfl)) dL_law_906 ⟨rmC (by omega), rmS (by omega)⟩)) (fun r9 e9 => ?_)
  rw [e9]
  refine lv_iload hx hb dL_law_909 (lv_at hl 1 rfl) ?_
  refine lv_icmp_eq (tgt := 916) hx hb dL_law_911 (by decide) (fun c_2 => ?_) (fun c_2 => absurd hk9 c_2)
  refine lv_iload hx hb dL_law_916 (lv_at hl 1 rfl) ?_
  refine lv_if_ne (tgt := 933) hx hb dL_law_918 (by decide) (fun c_3 => ?_) (fun c_3 => ?_)
  · refine lv_goto (tgt := 936) hx hb dL_law_933 (by decide) ?_
    refine W.widen (k := cells + 6) (n := slots + 24) (by omega) (by omega) ?_
    exact K _ _ _ _ _ _ _ _ _ _ _ _ _ _ _ _ _ _ _ _ _ _ _ _ hinv hP hD hS (lv_sub hl [2, 3, 4, 5, 6] rfl)
  · refine lv_aload_n hx hb dL_law_921 rfl (lv_at hl 3 rfl) ?_
    refine lv_iconst (v := 0) hx hb dL_law_922 (by decide) ?_
    refine va_lald hx hb hK hP 3 2 rfl rfl in_01 dL_law_923 ?_
    refine lv_iload hx hb dL_law_924 (lv_at hl 0 rfl) ?_
    refine lv_i2l (v := b9.toInt64) hx hb dL_law_926 rfl ?_
    refine q_cl_eq (tgt := 933) hx hb dL_law_927 dL_law_928 (by decide) (fun c_4 => ?_) (fun c_4 => absurd ((hfo c_3).trans (congrArg Int32.toInt64 (hv9 c_3))) c_4)
    refine lv_goto (tgt := 936) hx hb dL_law_933 (by decide) ?_
    refine W.widen (k := cells + 6) (n := slots + 24) (by omega) (by omega) ?_
    exact K _ _ _ _ _ _ _ _ _ _ _ _ _ _ _ _ _ _ _ _ _ _ _ _ hinv hP hD hS (lv_sub hl [2, 3, 4, 5, 6] rfl)
