/-! PURE: the divisor -1 -/
theorem p_divm1 (x : Int32) : x / (-1) = 0 - x := by
  apply Int32.toInt_inj.mp
  rw [Int32.toInt_div, Int32.toInt_sub, show (-1 : Int32).toInt = -1 by decide, show (0 : Int32).toInt = 0 by decide, Int.tdiv_neg, Int.tdiv_one, Int.zero_sub]
theorem p_remm1 (x : Int32) : x - x / (-1) * (-1) = 0 := by
  rw [p_divm1, Int32.zero_sub, Int32.neg_mul_neg, Int32.mul_one, Int32.sub_self]
