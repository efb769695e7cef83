/-! ===== a quotient of two ints, the divisor not 0, is no NaN ===== -/
section HQN
theorem qn64 {x n : Int32} (h : ¬ n = 0) : vf_n64 (FP.ddiv (FP.i2d x) (FP.i2d n)) := by
  have h0 : Jvm.FP.Core.dIsNaN (FP.i2d x) = false := by
    rw [Jvm.FP.Core.notNaN_iff]
    exact (Jvm.FP.Core.i2d_fin x).ne_nan
  have hz : ¬ Jvm.FP.Core.DZero (FP.i2d n) := by
    rw [Jvm.FP.Core.zero_bits2]
    exact fun q => Jvm.FP.Core.i2d_ne_zero h q
  have k := Jvm.FP.Core.ddiv_out h0 (Jvm.FP.Core.i2d_fin n) hz
  unfold vf_n64
  rw [UInt64.le_iff_toNat_le, UInt64.toNat_and]
  have h1 : (0x7fffffffffffffff : UInt64).toNat = 2 ^ 63 - 1 := by decide
  have h2 : (0x7ff0000000000000 : UInt64).toNat = 9218868437227405312 := by decide
  rw [h1, h2, Nat.and_two_pow_sub_one_eq_mod]
  exact Nat.le_of_not_lt (fun q => absurd (k.symm.trans ((Jvm.FP.Core.isNaN_bits _).mpr q)) (by decide))
theorem qn32 {x n : Int32} (h : ¬ n = 0) : vf_n32 (FP.fdiv (FP.i2f x) (FP.i2f n)) := by
  have h0 : Jvm.FP.Core.fIsNaN (FP.i2f x) = false := by
    rw [Jvm.FP.Core.notNaN_iff32]
    exact (Jvm.FP.Core.i2f_fin x).ne_nan
  have hz : ¬ Jvm.FP.Core.FZero (FP.i2f n) := by
    rw [Jvm.FP.Core.zero_bits232]
    exact fun q => Jvm.FP.Core.i2f_ne_zero h q
  have k := Jvm.FP.Core.fdiv_out h0 (Jvm.FP.Core.i2f_fin n) hz
  unfold vf_n32
  rw [UInt32.le_iff_toNat_le, UInt32.toNat_and]
  have h1 : (0x7fffffff : UInt32).toNat = 2 ^ 31 - 1 := by decide
  have h2 : (0x7f800000 : UInt32).toNat = 2139095040 := by decide
  rw [h1, h2, Nat.and_two_pow_sub_one_eq_mod]
  exact Nat.le_of_not_lt (fun q => absurd (k.symm.trans ((Jvm.FP.Core.isNaN_bits32 _).mpr q)) (by decide))
end HQN
