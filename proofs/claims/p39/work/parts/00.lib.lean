/-! first of all, so that every round is over the whole library -/
theorem zfdiv_ok {a b : Int32} (hb : b ≠ 0) : vf_n32 (FP.fdiv (FP.i2f a) (FP.i2f b)) := by
  have hz : ¬ FP.Core.FZero (FP.Core.i2f b) := fun w => FP.Core.i2f_ne_zero hb ((FP.Core.zero_bits232 _).mp w)
  have ha : FP.Core.fIsNaN (FP.Core.i2f a) = false := (FP.Core.notNaN_iff32 _).mpr (FP.Core.i2f_fin a).ne_nan
  have h := FP.Core.fdiv_out ha (FP.Core.i2f_fin b) hz
  have h2 : (FP.Core.fdiv (FP.Core.i2f a) (FP.Core.i2f b)).toNat % 2 ^ 31 ≤ 2139095040 := (FP.Core.ne_nan32 _).mp ((FP.Core.notNaN_iff32 _).mp h)
  unfold vf_n32
  rw [FP.fdiv_core, FP.i2f_core, UInt32.le_iff_toNat_le, UInt32.toNat_and]
  have h3 : (0x7fffffff : UInt32).toNat = 2 ^ 31 - 1 := by decide
  have h4 : (0x7f800000 : UInt32).toNat = 2139095040 := by decide
  rw [h3, h4, Nat.and_two_pow_sub_one_eq_mod]
  exact h2
