theorem zdiv_ok {x y : Int32} (h : y ≠ 0) : isNaN64 (FP.ddiv (FP.i2d x) (FP.i2d y)) = false := by sorry
theorem zdcmp_self {x : UInt64} (h : isNaN64 x = false) : Op.cmpValue (FP.dcmp x x) CmpOp.l = 0 := by sorry
