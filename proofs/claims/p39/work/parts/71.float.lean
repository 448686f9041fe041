/-! quotients of ints: no NaN -/
theorem b63 (r : UInt64) : (r &&& 0x7fffffffffffffff).toNat = r.toNat % 2 ^ 63 := by
  rw [UInt64.toNat_and]
  exact Nat.and_two_pow_sub_one_eq_mod r.toNat 63
theorem b31 (r : UInt32) : (r &&& 0x7fffffff).toNat = r.toNat % 2 ^ 31 := by
  rw [UInt32.toNat_and]
  exact Nat.and_two_pow_sub_one_eq_mod r.toNat 31
theorem n64_of {r : UInt64} (h : r.toNat % 2 ^ 63 < 2047 * 2 ^ 52) : vf_n64 r := by
  unfold vf_n64
  rw [UInt64.le_iff_toNat_le, b63]
  have : (0x7ff0000000000000 : UInt64).toNat = 2047 * 2 ^ 52 := by decide
  omega
theorem n32_of {r : UInt32} (h : r.toNat % 2 ^ 31 < 255 * 2 ^ 23) : vf_n32 r := by
  unfold vf_n32
  rw [UInt32.le_iff_toNat_le, b31]
  have : (0x7f800000 : UInt32).toNat = 255 * 2 ^ 23 := by decide
  omega
theorem fdiv_mg {x y : Int32} (hy : ¬ y = 0) : (FP.fdiv (FP.i2f x) (FP.i2f y)).toNat % 2 ^ 31 < 255 * 2 ^ 23 := by
  have h := FP.Core.fdiv_mag (K := 160) (L := 127) (FP.Core.i2f_mag x) (FP.Core.i2f_big (FP.Core.int32_ne hy)).1 (FP.Core.i2f_big (FP.Core.int32_ne hy)).2 (by decide) (by decide)
  exact Nat.lt_of_lt_of_le h (by decide)
theorem ddiv_mg {x y : Int32} (hy : ¬ y = 0) : (FP.ddiv (FP.i2d x) (FP.i2d y)).toNat % 2 ^ 63 < 2047 * 2 ^ 52 := by
  have h := FP.Core.ddiv_mag (K := 1056) (L := 1023) (FP.Core.i2d_mag x) (FP.Core.i2d_big (FP.Core.int32_ne hy)).1 (FP.Core.i2d_big (FP.Core.int32_ne hy)).2 (by decide) (by decide)
  exact Nat.lt_of_lt_of_le h (by decide)
theorem fdiv_n {x y : Int32} (hy : ¬ y = 0) : vf_n32 (FP.fdiv (FP.i2f x) (FP.i2f y)) := n32_of (fdiv_mg hy)
theorem ddiv_n {x y : Int32} (hy : ¬ y = 0) : vf_n64 (FP.ddiv (FP.i2d x) (FP.i2d y)) := n64_of (ddiv_mg hy)
theorem fc_eq {x y : Int32} (hy : ¬ y = 0) : Op.cmpValue (FP.fcmp (FP.fdiv (FP.i2f x) (FP.i2f y)) (FP.fdiv (FP.i2f x) (FP.i2f y))) .l = 0 := by
  have hn : FP.Core.fIsNaN (FP.fdiv (FP.i2f x) (FP.i2f y)) = false := by
    have h := fdiv_mg (x := x) hy
    cases e : FP.Core.fIsNaN (FP.fdiv (FP.i2f x) (FP.i2f y)) with
    | false => rfl
    | true =>
      have := (FP.Core.isNaN_bits32 _).mp e
      omega
  have e2 : FP.fcmp (FP.fdiv (FP.i2f x) (FP.i2f y)) (FP.fdiv (FP.i2f x) (FP.i2f y)) = some .eq := FP.Core.fcmp_self ((FP.Core.notNaN_iff32 _).mp hn)
  rw [e2]
  rfl
theorem dc_eq {x y : Int32} (hy : ¬ y = 0) : Op.cmpValue (FP.dcmp (FP.ddiv (FP.i2d x) (FP.i2d y)) (FP.ddiv (FP.i2d x) (FP.i2d y))) .l = 0 := by
  have hn : FP.Core.dIsNaN (FP.ddiv (FP.i2d x) (FP.i2d y)) = false := by
    have h := ddiv_mg (x := x) hy
    cases e : FP.Core.dIsNaN (FP.ddiv (FP.i2d x) (FP.i2d y)) with
    | false => rfl
    | true =>
      have := (FP.Core.isNaN_bits _).mp e
      omega
  have e2 : FP.dcmp (FP.ddiv (FP.i2d x) (FP.i2d y)) (FP.ddiv (FP.i2d x) (FP.i2d y)) = some .eq := FP.Core.dcmp_self ((FP.Core.notNaN_iff _).mp hn)
  rw [e2]
  rfl
