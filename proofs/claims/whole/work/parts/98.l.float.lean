/-! floats and doubles: no result is a NaN -/
theorem n32_of {x : UInt32} (h : FP.fIsNaN x = false) : ts_n32 x := sorry
theorem n64_of {x : UInt64} (h : FP.dIsNaN x = false) : ts_n64 x := sorry
theorem nn_i2f (d : Int32) : FP.fIsNaN (FP.i2f d) = false := sorry
theorem nn_fdiv {x : UInt32} {d : Int32} (h : FP.fIsNaN x = false) (hd : ¬ d = 0) : FP.fIsNaN (FP.fdiv x (FP.i2f d)) = false := sorry
theorem nn_ddiv {x d : Int32} (hd : ¬ d = 0) : FP.dIsNaN (FP.ddiv (FP.i2d x) (FP.i2d d)) = false := sorry
theorem nn_f2d {x : UInt32} (h : FP.fIsNaN x = false) : FP.dIsNaN (FP.f2d x) = false := sorry
theorem dc_refl {x : UInt64} (h : FP.dIsNaN x = false) : Op.cmpValue (FP.dcmp x x) .l = 0 := sorry
