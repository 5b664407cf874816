theorem gsw_d {a d v : Int} {r : List (Int × Int)} (h : Op.lookupswitch.offset r d v = d) : Op.lookupswitch.offset ((a, d) :: r) d v = d := by
  rw [Op.lookupswitch.offset_cons]
  by_cases hc : a = v
  · rw [if_pos hc]
  · rw [if_neg hc]; exact h
