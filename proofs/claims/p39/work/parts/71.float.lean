/-! quotients of ints: no NaN -/
theorem fdiv_n {x y : Int32} (hy : ¬ y = 0) : vf_n32 (FP.fdiv (FP.i2f x) (FP.i2f y)) := sorry
theorem ddiv_n {x y : Int32} (hy : ¬ y = 0) : vf_n64 (FP.ddiv (FP.i2d x) (FP.i2d y)) := sorry
theorem fc_eq {x y : Int32} (hy : ¬ y = 0) : Op.cmpValue (FP.fcmp (FP.fdiv (FP.i2f x) (FP.i2f y)) (FP.fdiv (FP.i2f x) (FP.i2f y))) .l = 0 := sorry
theorem dc_eq {x y : Int32} (hy : ¬ y = 0) : Op.cmpValue (FP.dcmp (FP.ddiv (FP.i2d x) (FP.i2d y)) (FP.ddiv (FP.i2d x) (FP.i2d y))) .l = 0 := sorry
