/-! the law: the share as a double -/
theorem zf2d_ok {x : UInt32} (h : vf_n32 x) : vf_n64 (FP.f2d x) := by
  unfold vf_n32 at h
  rw [UInt32.le_iff_toNat_le, UInt32.toNat_and, show (0x7fffffff : UInt32).toNat = 2 ^ 31 - 1 by decide, show (0x7f800000 : UInt32).toNat = 2139095040 by decide, Nat.and_two_pow_sub_one_eq_mod] at h
  have h1 : FP.Core.fIsNaN x = false := (FP.Core.notNaN_iff32 _).mpr ((FP.Core.ne_nan32 _).mpr h)
  have h2 : FP.dIsNaN (FP.f2d x) = false := (FP.f2d_nan x).trans h1
  unfold vf_n64
  rw [UInt64.le_iff_toNat_le, UInt64.toNat_and, show (0x7fffffffffffffff : UInt64).toNat = 2 ^ 63 - 1 by decide, show (0x7ff0000000000000 : UInt64).toNat = 9218868437227405312 by decide, Nat.and_two_pow_sub_one_eq_mod]
  refine Nat.not_lt.mp fun w => ?_
  exact absurd (h2.symm.trans ((FP.Core.isNaN_bits (FP.f2d x)).mpr w)) (by decide)
theorem zdcmp_self {x : UInt32} (h : vf_n32 x) : Op.cmpValue (FP.dcmp (FP.f2d x) (FP.f2d x)) .l = 0 := by
  unfold vf_n32 at h
  rw [UInt32.le_iff_toNat_le, UInt32.toNat_and, show (0x7fffffff : UInt32).toNat = 2 ^ 31 - 1 by decide, show (0x7f800000 : UInt32).toNat = 2139095040 by decide, Nat.and_two_pow_sub_one_eq_mod] at h
  have h1 : FP.Core.fIsNaN x = false := (FP.Core.notNaN_iff32 _).mpr ((FP.Core.ne_nan32 _).mpr h)
  have h2 : FP.Core.dIsNaN (FP.f2d x) = false := (FP.f2d_nan x).trans h1
  rw [show FP.dcmp (FP.f2d x) (FP.f2d x) = some .eq from FP.Core.dcmp_self ((FP.Core.notNaN_iff _).mp h2)]
  rfl
theorem zshF_ok {A : List zAE} {tk cs : Nat} (hcs : tk ≠ 0 → 1 ≤ cs ∧ cs ≤ 4) (htk : tk ≤ 28000000) : vf_n32 (zshF A tk cs) := by
  unfold zshF
  by_cases h : tk = 0
  · rw [if_pos h]
    unfold vf_n32
    decide
  · rw [if_neg h]
    obtain ⟨c1, c2⟩ := hcs h
    obtain ⟨a, b⟩ := zsh_ne htk c1 c2 h
    refine zfdiv_ok fun w => ?_
    have := (nI_eq (a := tk * cs) (b := 0) a (by omega)).mp w
    omega
