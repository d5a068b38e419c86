/-! ===== FLOAT: magnitudes of doubles and floats; goes FIRST (its names stand in the rest of the library: the claim is read over the whole of it) ===== -/
theorem zfl_add {a b : UInt64} {K : Nat} (ha : a.toNat % 2 ^ 63 < K * 2 ^ 52) (hb : b.toNat % 2 ^ 63 < K * 2 ^ 52) (hK : K ≤ 2047) : (FP.dadd a b).toNat % 2 ^ 63 < (K + 2) * 2 ^ 52 := FP.Core.dadd_mag ha hb hK
theorem zfl_mul {a b : UInt64} {Ka Kb : Nat} (ha : a.toNat % 2 ^ 63 < Ka * 2 ^ 52) (hb : b.toNat % 2 ^ 63 < Kb * 2 ^ 52) (hKa : Ka ≤ 2047) (hKb : Kb ≤ 2047) : (FP.dmul a b).toNat % 2 ^ 63 < (Ka + Kb - 1022) * 2 ^ 52 ∨ (FP.dmul a b).toNat % 2 ^ 63 < 3 * 2 ^ 52 := by
  have h := FP.Core.dmul_mag ha hb hKa hKb
  by_cases c : 1025 ≤ Ka + Kb
  · left
    rw [show Ka + Kb - 1022 = Ka + Kb - 1025 + 3 by omega]
    exact h
  · right
    rw [show Ka + Kb - 1025 + 3 = 3 by omega] at h
    exact h
theorem zfl_div {a b : UInt64} {K L : Nat} (ha : a.toNat % 2 ^ 63 < K * 2 ^ 52) (hb : L * 2 ^ 52 ≤ b.toNat % 2 ^ 63) (hb2 : b.toNat % 2 ^ 63 < 2047 * 2 ^ 52) (hK : K ≤ 2047) (hL : 1 ≤ L) : (FP.ddiv a b).toNat % 2 ^ 63 < (K + 1021 - L + 3) * 2 ^ 52 := FP.Core.ddiv_mag ha hb hb2 hK hL
theorem zfl_i2d (v : Int32) : (FP.i2d v).toNat % 2 ^ 63 < 1056 * 2 ^ 52 := FP.Core.i2d_mag v
theorem zfl_i2dg {v : Int32} (h : v.toInt ≠ 0) : 1023 * 2 ^ 52 ≤ (FP.i2d v).toNat % 2 ^ 63 ∧ (FP.i2d v).toNat % 2 ^ 63 < 2047 * 2 ^ 52 := FP.Core.i2d_big h
theorem zfl_n64 {a : UInt64} (h : a.toNat % 2 ^ 63 < 2047 * 2 ^ 52) : decide (a &&& 0x7fffffffffffffff ≤ 0x7ff0000000000000) = true := by
  refine decide_eq_true ?_
  rw [UInt64.le_iff_toNat_le, FP.Core.mask_toNat]
  exact Nat.le_of_lt (Nat.lt_of_lt_of_le h (by decide))
theorem zfl_fmul {a b : UInt32} {Ka Kb : Nat} (ha : a.toNat % 2 ^ 31 < Ka * 2 ^ 23) (hb : b.toNat % 2 ^ 31 < Kb * 2 ^ 23) (hKa : Ka ≤ 255) (hKb : Kb ≤ 255) : (FP.fmul a b).toNat % 2 ^ 31 < (Ka + Kb - 129 + 3) * 2 ^ 23 := FP.Core.fmul_mag ha hb hKa hKb
theorem zfl_fsub {a b : UInt32} {K : Nat} (ha : a.toNat % 2 ^ 31 < K * 2 ^ 23) (hb : b.toNat % 2 ^ 31 < K * 2 ^ 23) (hK : K ≤ 255) : (FP.fsub a b).toNat % 2 ^ 31 < (K + 2) * 2 ^ 23 := FP.Core.fsub_mag ha hb hK
theorem zfl_fdiv {a b : UInt32} {K L : Nat} (ha : a.toNat % 2 ^ 31 < K * 2 ^ 23) (hb : L * 2 ^ 23 ≤ b.toNat % 2 ^ 31) (hb2 : b.toNat % 2 ^ 31 < 255 * 2 ^ 23) (hK : K ≤ 255) (hL : 1 ≤ L) : (FP.fdiv a b).toNat % 2 ^ 31 < (K + 125 - L + 3) * 2 ^ 23 := FP.Core.fdiv_mag ha hb hb2 hK hL
theorem zfl_i2f (v : Int32) : (FP.i2f v).toNat % 2 ^ 31 < 160 * 2 ^ 23 := FP.Core.i2f_mag v
theorem zfl_i2fg {v : Int32} (h : v.toInt ≠ 0) : 127 * 2 ^ 23 ≤ (FP.i2f v).toNat % 2 ^ 31 ∧ (FP.i2f v).toNat % 2 ^ 31 < 255 * 2 ^ 23 := FP.Core.i2f_big h
theorem zfl_n32 {a : UInt32} (h : a.toNat % 2 ^ 31 < 255 * 2 ^ 23) : decide (a &&& 0x7fffffff ≤ 0x7f800000) = true := by
  refine decide_eq_true ?_
  rw [UInt32.le_iff_toNat_le, FP.Core.mask_toNat32]
  exact Nat.le_of_lt (Nat.lt_of_lt_of_le h (by decide))
