/-- high and low, put together -/
theorem put_hl (hi lw : Int32) : (jlshl hi.toInt64 32) ||| (lw.toInt64 &&& 4294967295) = hi.toInt64 * 4294967296 + (lw.toInt64 &&& 4294967295) := by
  obtain ⟨n, hn, e⟩ := wb_of hi.toInt64
  obtain ⟨m, hm, e2⟩ := wb_of lw.toInt64
  have e3 : lN m &&& (4294967295 : Int64) = lN (m % 4294967296) := g_mask (p := 4294967296) (s := 32) rfl (by decide) hm
  have e4 : jlshl (lN n) 32 = lN (n * 2 ^ 32) := wb_shl n (k := 32) (by decide)
  rw [e, e2, e3, e4]
  have e5 : lN n * (4294967296 : Int64) = lN (n * 4294967296) := lN_mul n 4294967296
  rw [e5, lN_add]
  have e6 : lN (n * 2 ^ 32) = lN (n % 4294967296 * 2 ^ 32) := by
    rw [wb_mod, wb_mod (n % 4294967296 * 2 ^ 32)]
    refine congrArg lN ?_
    omega
  have e7 : lN (n * 4294967296 + m % 4294967296) = lN (n % 4294967296 * 2 ^ 32 + m % 4294967296) := by
    rw [wb_mod, wb_mod (n % 4294967296 * 2 ^ 32 + m % 4294967296)]
    refine congrArg lN ?_
    omega
  rw [e6, e7]
  exact g_or (k := 32) (p := 2 ^ 32) rfl (by omega) (by omega)
