theorem znan_iff (x : UInt64) : isNaN64 x = false ↔ x.toNat % 9223372036854775808 ≤ 9218868437227405312 := by
  unfold isNaN64
  rw [decide_eq_false_iff_not, UInt64.not_lt, UInt64.le_iff_toNat_le, UInt64.toNat_and]
  have h1 : (0x7fffffffffffffff : UInt64).toNat = 2 ^ 63 - 1 := by decide
  have h2 : (0x7ff0000000000000 : UInt64).toNat = 9218868437227405312 := by decide
  rw [h1, h2, Nat.and_two_pow_sub_one_eq_mod]
theorem znan_core {x : UInt64} : isNaN64 x = false ↔ FP.Core.dIsNaN x = false := by
  rw [znan_iff, ← Bool.not_eq_true (FP.Core.dIsNaN x), FP.Core.isNaN_bits]; omega
theorem zdiv_ok {x y : Int32} (h : y ≠ 0) : isNaN64 (FP.ddiv (FP.i2d x) (FP.i2d y)) = false :=
  znan_core.mpr (FP.Core.ddiv_out ((FP.Core.notNaN_iff _).mpr (FP.Core.i2d_fin x).ne_nan) (FP.Core.i2d_fin y) (fun q => FP.Core.i2d_ne_zero h ((FP.Core.zero_bits2 _).mp q)))
theorem zdcmp_self {x : UInt64} (h : isNaN64 x = false) : Op.cmpValue (FP.dcmp x x) CmpOp.l = 0 := by
  rw [show FP.dcmp x x = some .eq from FP.Core.dcmp_self ((FP.Core.notNaN_iff x).mp (znan_core.mp h))]; rfl
