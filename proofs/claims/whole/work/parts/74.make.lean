theorem R_make_nz {cw : Int32} {d : Nat} {ng : Bool} {x z : Nat} {un : Int32} (hf : ¬ lN x = 0) (hz : z < 64) (hj : J_nlz64 (lN x) = nI z) : R_make cw (nI d) ng (lN x) un = (if (-16382) ≤ un + 63 - nI z then (if un + 63 - nI z ≤ 16383 then (R_signOf ng ||| (un + 63 - nI z + 16383), lN (x * 2 ^ z), nI d) else R_makeOver cw (nI d) ng (un + 63 - nI z) (lN (x * 2 ^ z))) else R_makeUnder cw (nI d) ng (un + 63 - nI z) (lN (x * 2 ^ z))) := by
  have hn2 : jlshl (lN x) (nI z) = lN (x * 2 ^ z) := wb_shl x hz
  unfold R_make
  rw [if_neg hf, hj, hn2]
  simp only [tup3_id]
  rfl
theorem over_t {cw : Int32} {w d : Nat} (hwR : R_rounding cw = nI w) (ng : Bool) (ex : Int32) (nm : Int64) (c4 : ¬ bI (R_masked cw 8) = 0) : R_makeOver cw (nI d) ng ex nm = (if (nI w : Int32) = 3 then (R_signOf ng ||| (16383 + 16383), -1, nI (d ||| 2 ^ 3 ||| 2 ^ 5)) else if (nI w : Int32) = (if bI ng = 0 then (1 : Int32) else (2 : Int32)) then (R_signOf ng ||| (16383 + 16383), -1, nI (d ||| 2 ^ 3 ||| 2 ^ 5)) else (R_signOf ng ||| 32767, -9223372036854775808, nI (d ||| 2 ^ 3 ||| 2 ^ 5))) := by
  unfold R_makeOver
  rw [if_neg c4, hwR, or_40]
  rfl
theorem over_w {w : Nat} (hw4 : w < 4) (ng : Bool) : ∃ (t : Int32) (f : Int64), (∀ D : Int32, (if (nI w : Int32) = 3 then (R_signOf ng ||| (16383 + 16383), (-1 : Int64), D) else if (nI w : Int32) = (if bI ng = 0 then (1 : Int32) else (2 : Int32)) then (R_signOf ng ||| (16383 + 16383), -1, D) else (R_signOf ng ||| 32767, -9223372036854775808, D)) = (t, f, D)) ∧ ((if bI ng = 0 then (0 : Int32) else (32768 : Int32)) + (if bI (if nI w = 0 then true else (if bI ng = 0 then (if nI w = 2 then true else false) else (if nI w = 1 then true else false))) = 0 then (32766 : Int32) else (32767 : Int32))) = t ∧ (if bI (if nI w = 0 then true else (if bI ng = 0 then (if nI w = 2 then true else false) else (if nI w = 1 then true else false))) = 0 then (-1 : Int64) else (-9223372036854775808 : Int64)) = f ∧ 0 ≤ t.toInt ∧ t.toInt ≤ 65535 := by
  have n03 : ¬ (nI 0 : Int32) = 3 := by decide
  have n13 : ¬ (nI 1 : Int32) = 3 := by decide
  have n23 : ¬ (nI 2 : Int32) = 3 := by decide
  have y33 : (nI 3 : Int32) = 3 := rfl
  have n01 : ¬ (nI 0 : Int32) = 1 := by decide
  have n02 : ¬ (nI 0 : Int32) = 2 := by decide
  have n12 : ¬ (nI 1 : Int32) = 2 := by decide
  have n21 : ¬ (nI 2 : Int32) = 1 := by decide
  have y11 : (nI 1 : Int32) = 1 := rfl
  have y22 : (nI 2 : Int32) = 2 := rfl
  have y00 : (nI 0 : Int32) = 0 := rfl
  have n10 : ¬ (nI 1 : Int32) = 0 := by decide
  have n20 : ¬ (nI 2 : Int32) = 0 := by decide
  have n30 : ¬ (nI 3 : Int32) = 0 := by decide
  have n31 : ¬ (nI 3 : Int32) = 1 := by decide
  have n32 : ¬ (nI 3 : Int32) = 2 := by decide
  match w, hw4 with
  | 0, _ =>
    cases ng
    · refine ⟨32767, -9223372036854775808, fun D => ?_, ?_, ?_, by decide, by decide⟩ <;> simp only [if_pos bIf, if_neg bIt, if_neg n03, if_neg n01, if_neg n02, if_pos y00] <;> first | rfl | decide
    · refine ⟨65535, -9223372036854775808, fun D => ?_, ?_, ?_, by decide, by decide⟩ <;> simp only [if_pos bIf, if_neg bIt, if_neg n03, if_neg n01, if_neg n02, if_pos y00] <;> first | rfl | decide
  | 1, _ =>
    cases ng
    · refine ⟨32766, -1, fun D => ?_, ?_, ?_, by decide, by decide⟩ <;> simp only [if_pos bIf, if_neg bIt, if_neg n13, if_pos y11, if_neg n12, if_neg n10] <;> first | rfl | decide
    · refine ⟨65535, -9223372036854775808, fun D => ?_, ?_, ?_, by decide, by decide⟩ <;> simp only [if_pos bIf, if_neg bIt, if_neg n13, if_pos y11, if_neg n12, if_neg n10] <;> first | rfl | decide
  | 2, _ =>
    cases ng
    · refine ⟨32767, -9223372036854775808, fun D => ?_, ?_, ?_, by decide, by decide⟩ <;> simp only [if_pos bIf, if_neg bIt, if_neg n23, if_pos y22, if_neg n21, if_neg n20] <;> first | rfl | decide
    · refine ⟨65534, -1, fun D => ?_, ?_, ?_, by decide, by decide⟩ <;> simp only [if_pos bIf, if_neg bIt, if_neg n23, if_pos y22, if_neg n21, if_neg n20] <;> first | rfl | decide
  | 3, _ =>
    cases ng
    · refine ⟨32766, -1, fun D => ?_, ?_, ?_, by decide, by decide⟩ <;> simp only [if_pos bIf, if_neg bIt, if_pos y33, if_neg n31, if_neg n32, if_neg n30] <;> first | rfl | decide
    · refine ⟨65534, -1, fun D => ?_, ?_, ?_, by decide, by decide⟩ <;> simp only [if_pos bIf, if_neg bIt, if_pos y33, if_neg n31, if_neg n32, if_neg n30] <;> first | rfl | decide
  | n + 4, q => exact absurd q (by omega)
