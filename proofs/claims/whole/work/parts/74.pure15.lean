/-! PURE: two numbers joined -/
theorem p_w31 (y : Int32) : f_Md_within y 0 31 = some (if y < 0 then 0 else if y ≤ 31 then 1 else 0) := by
  rw [p_win]
  have e31 : (31 : Int32).toInt = 31 := by decide
  by_cases z : y < 0
  · rw [if_pos z, if_pos z]
  · rw [if_neg z, if_neg z]
    by_cases w : y ≤ 31
    · have q : ¬ (31 : Int32) < y := fun q => by
        rw [Int32.lt_iff_toInt_lt] at q
        rw [Int32.le_iff_toInt_le] at w
        omega
      rw [if_pos w, if_neg q]
    · have q : (31 : Int32) < y := by
        rw [Int32.lt_iff_toInt_lt]
        rw [Int32.le_iff_toInt_le] at w
        omega
      rw [if_neg w, if_pos q]
theorem p_two26 (x y : Int32) : ∃ v, f_Rk_joined (nI 26) x y = some v ∧ f_Md_two (nI 26) x y = some v := by
  unfold f_Rk_joined f_Md_two
  simp only [show ((nI 26 : Int32) = 26) = True from eq_true (by decide), show ((nI 26 : Int32) = 27) = False from eq_false (by decide), show ((nI 26 : Int32) = 28) = False from eq_false (by decide), show ((nI 26 : Int32) = 29) = False from eq_false (by decide), show ((nI 26 : Int32) = 30) = False from eq_false (by decide), show ((nI 26 : Int32) = 33) = False from eq_false (by decide), show ((nI 26 : Int32) = 34) = False from eq_false (by decide), show ((nI 26 : Int32) = 36) = False from eq_false (by decide), show ((nI 26 : Int32) = 37) = False from eq_false (by decide), show ((nI 26 : Int32) = 38) = False from eq_false (by decide), show ((nI 26 : Int32) = 39) = False from eq_false (by decide), show ((nI 26 : Int32) = 41) = False from eq_false (by decide), show ((nI 26 : Int32) = 42) = False from eq_false (by decide), show ((nI 26 : Int32) = 43) = False from eq_false (by decide), show ((nI 26 : Int32) = 44) = False from eq_false (by decide), show ((nI 26 : Int32) = 45) = False from eq_false (by decide), if_false, if_true]
  exact ⟨_, rfl, rfl⟩
theorem p_two27 (x y : Int32) (hy : ¬ y = 0) : ∃ v, f_Rk_joined (nI 27) x y = some v ∧ f_Md_two (nI 27) x y = some v := by
  unfold f_Rk_joined f_Md_two
  simp only [show ((nI 27 : Int32) = 26) = False from eq_false (by decide), show ((nI 27 : Int32) = 27) = True from eq_true (by decide), show ((nI 27 : Int32) = 28) = False from eq_false (by decide), show ((nI 27 : Int32) = 29) = False from eq_false (by decide), show ((nI 27 : Int32) = 30) = False from eq_false (by decide), show ((nI 27 : Int32) = 33) = False from eq_false (by decide), show ((nI 27 : Int32) = 34) = False from eq_false (by decide), show ((nI 27 : Int32) = 36) = False from eq_false (by decide), show ((nI 27 : Int32) = 37) = False from eq_false (by decide), show ((nI 27 : Int32) = 38) = False from eq_false (by decide), show ((nI 27 : Int32) = 39) = False from eq_false (by decide), show ((nI 27 : Int32) = 41) = False from eq_false (by decide), show ((nI 27 : Int32) = 42) = False from eq_false (by decide), show ((nI 27 : Int32) = 43) = False from eq_false (by decide), show ((nI 27 : Int32) = 44) = False from eq_false (by decide), show ((nI 27 : Int32) = 45) = False from eq_false (by decide), if_false, if_true]
  rw [if_neg hy, if_neg hy]
  by_cases hm : y = -1
  · subst hm
    rw [if_pos rfl, p_divm1]
    exact ⟨_, rfl, rfl⟩
  · rw [if_neg hm]
    exact ⟨_, rfl, rfl⟩
theorem p_two28 (x y : Int32) : ∃ v, f_Rk_joined (nI 28) x y = some v ∧ f_Md_two (nI 28) x y = some v := by
  unfold f_Rk_joined f_Md_two
  simp only [show ((nI 28 : Int32) = 26) = False from eq_false (by decide), show ((nI 28 : Int32) = 27) = False from eq_false (by decide), show ((nI 28 : Int32) = 28) = True from eq_true (by decide), show ((nI 28 : Int32) = 29) = False from eq_false (by decide), show ((nI 28 : Int32) = 30) = False from eq_false (by decide), show ((nI 28 : Int32) = 33) = False from eq_false (by decide), show ((nI 28 : Int32) = 34) = False from eq_false (by decide), show ((nI 28 : Int32) = 36) = False from eq_false (by decide), show ((nI 28 : Int32) = 37) = False from eq_false (by decide), show ((nI 28 : Int32) = 38) = False from eq_false (by decide), show ((nI 28 : Int32) = 39) = False from eq_false (by decide), show ((nI 28 : Int32) = 41) = False from eq_false (by decide), show ((nI 28 : Int32) = 42) = False from eq_false (by decide), show ((nI 28 : Int32) = 43) = False from eq_false (by decide), show ((nI 28 : Int32) = 44) = False from eq_false (by decide), show ((nI 28 : Int32) = 45) = False from eq_false (by decide), if_false, if_true]
  exact ⟨_, rfl, rfl⟩
theorem p_two29 (x y : Int32) (hy : ¬ y = 0) : ∃ v, f_Rk_joined (nI 29) x y = some v ∧ f_Md_two (nI 29) x y = some v := by
  unfold f_Rk_joined f_Md_two
  simp only [show ((nI 29 : Int32) = 26) = False from eq_false (by decide), show ((nI 29 : Int32) = 27) = False from eq_false (by decide), show ((nI 29 : Int32) = 28) = False from eq_false (by decide), show ((nI 29 : Int32) = 29) = True from eq_true (by decide), show ((nI 29 : Int32) = 30) = False from eq_false (by decide), show ((nI 29 : Int32) = 33) = False from eq_false (by decide), show ((nI 29 : Int32) = 34) = False from eq_false (by decide), show ((nI 29 : Int32) = 36) = False from eq_false (by decide), show ((nI 29 : Int32) = 37) = False from eq_false (by decide), show ((nI 29 : Int32) = 38) = False from eq_false (by decide), show ((nI 29 : Int32) = 39) = False from eq_false (by decide), show ((nI 29 : Int32) = 41) = False from eq_false (by decide), show ((nI 29 : Int32) = 42) = False from eq_false (by decide), show ((nI 29 : Int32) = 43) = False from eq_false (by decide), show ((nI 29 : Int32) = 44) = False from eq_false (by decide), show ((nI 29 : Int32) = 45) = False from eq_false (by decide), if_false, if_true]
  rw [if_neg hy, if_neg hy]
  by_cases hm : y = -1
  · subst hm
    rw [if_pos rfl, p_remm1]
    exact ⟨_, rfl, rfl⟩
  · rw [if_neg hm]
    exact ⟨_, rfl, rfl⟩
theorem p_two30 (x y : Int32) : ∃ v, f_Rk_joined (nI 30) x y = some v ∧ f_Md_two (nI 30) x y = some v := by
  unfold f_Rk_joined f_Md_two
  simp only [show ((nI 30 : Int32) = 26) = False from eq_false (by decide), show ((nI 30 : Int32) = 27) = False from eq_false (by decide), show ((nI 30 : Int32) = 28) = False from eq_false (by decide), show ((nI 30 : Int32) = 29) = False from eq_false (by decide), show ((nI 30 : Int32) = 30) = True from eq_true (by decide), show ((nI 30 : Int32) = 33) = False from eq_false (by decide), show ((nI 30 : Int32) = 34) = False from eq_false (by decide), show ((nI 30 : Int32) = 36) = False from eq_false (by decide), show ((nI 30 : Int32) = 37) = False from eq_false (by decide), show ((nI 30 : Int32) = 38) = False from eq_false (by decide), show ((nI 30 : Int32) = 39) = False from eq_false (by decide), show ((nI 30 : Int32) = 41) = False from eq_false (by decide), show ((nI 30 : Int32) = 42) = False from eq_false (by decide), show ((nI 30 : Int32) = 43) = False from eq_false (by decide), show ((nI 30 : Int32) = 44) = False from eq_false (by decide), show ((nI 30 : Int32) = 45) = False from eq_false (by decide), if_false, if_true]
  exact ⟨_, rfl, rfl⟩
theorem p_two33 (x y : Int32) : ∃ v, f_Rk_joined (nI 33) x y = some v ∧ f_Md_two (nI 33) x y = some v := by
  unfold f_Rk_joined f_Md_two
  simp only [show ((nI 33 : Int32) = 26) = False from eq_false (by decide), show ((nI 33 : Int32) = 27) = False from eq_false (by decide), show ((nI 33 : Int32) = 28) = False from eq_false (by decide), show ((nI 33 : Int32) = 29) = False from eq_false (by decide), show ((nI 33 : Int32) = 30) = False from eq_false (by decide), show ((nI 33 : Int32) = 33) = True from eq_true (by decide), show ((nI 33 : Int32) = 34) = False from eq_false (by decide), show ((nI 33 : Int32) = 36) = False from eq_false (by decide), show ((nI 33 : Int32) = 37) = False from eq_false (by decide), show ((nI 33 : Int32) = 38) = False from eq_false (by decide), show ((nI 33 : Int32) = 39) = False from eq_false (by decide), show ((nI 33 : Int32) = 41) = False from eq_false (by decide), show ((nI 33 : Int32) = 42) = False from eq_false (by decide), show ((nI 33 : Int32) = 43) = False from eq_false (by decide), show ((nI 33 : Int32) = 44) = False from eq_false (by decide), show ((nI 33 : Int32) = 45) = False from eq_false (by decide), if_false, if_true]
  exact ⟨_, rfl, rfl⟩
theorem p_two34 (x y : Int32) : ∃ v, f_Rk_joined (nI 34) x y = some v ∧ f_Md_two (nI 34) x y = some v := by
  unfold f_Rk_joined f_Md_two
  simp only [show ((nI 34 : Int32) = 26) = False from eq_false (by decide), show ((nI 34 : Int32) = 27) = False from eq_false (by decide), show ((nI 34 : Int32) = 28) = False from eq_false (by decide), show ((nI 34 : Int32) = 29) = False from eq_false (by decide), show ((nI 34 : Int32) = 30) = False from eq_false (by decide), show ((nI 34 : Int32) = 33) = False from eq_false (by decide), show ((nI 34 : Int32) = 34) = True from eq_true (by decide), show ((nI 34 : Int32) = 36) = False from eq_false (by decide), show ((nI 34 : Int32) = 37) = False from eq_false (by decide), show ((nI 34 : Int32) = 38) = False from eq_false (by decide), show ((nI 34 : Int32) = 39) = False from eq_false (by decide), show ((nI 34 : Int32) = 41) = False from eq_false (by decide), show ((nI 34 : Int32) = 42) = False from eq_false (by decide), show ((nI 34 : Int32) = 43) = False from eq_false (by decide), show ((nI 34 : Int32) = 44) = False from eq_false (by decide), show ((nI 34 : Int32) = 45) = False from eq_false (by decide), if_false, if_true]
  exact ⟨_, rfl, rfl⟩
theorem p_two36 (x y : Int32) : ∃ v, f_Rk_joined (nI 36) x y = some v ∧ f_Md_two (nI 36) x y = some v := by
  unfold f_Rk_joined f_Md_two
  simp only [show ((nI 36 : Int32) = 26) = False from eq_false (by decide), show ((nI 36 : Int32) = 27) = False from eq_false (by decide), show ((nI 36 : Int32) = 28) = False from eq_false (by decide), show ((nI 36 : Int32) = 29) = False from eq_false (by decide), show ((nI 36 : Int32) = 30) = False from eq_false (by decide), show ((nI 36 : Int32) = 33) = False from eq_false (by decide), show ((nI 36 : Int32) = 34) = False from eq_false (by decide), show ((nI 36 : Int32) = 36) = True from eq_true (by decide), show ((nI 36 : Int32) = 37) = False from eq_false (by decide), show ((nI 36 : Int32) = 38) = False from eq_false (by decide), show ((nI 36 : Int32) = 39) = False from eq_false (by decide), show ((nI 36 : Int32) = 41) = False from eq_false (by decide), show ((nI 36 : Int32) = 42) = False from eq_false (by decide), show ((nI 36 : Int32) = 43) = False from eq_false (by decide), show ((nI 36 : Int32) = 44) = False from eq_false (by decide), show ((nI 36 : Int32) = 45) = False from eq_false (by decide), if_false, if_true]
  unfold f_Rk_shifted
  simp only [show ((nI 36 : Int32) = 26) = False from eq_false (by decide), show ((nI 36 : Int32) = 27) = False from eq_false (by decide), show ((nI 36 : Int32) = 28) = False from eq_false (by decide), show ((nI 36 : Int32) = 29) = False from eq_false (by decide), show ((nI 36 : Int32) = 30) = False from eq_false (by decide), show ((nI 36 : Int32) = 33) = False from eq_false (by decide), show ((nI 36 : Int32) = 34) = False from eq_false (by decide), show ((nI 36 : Int32) = 36) = True from eq_true (by decide), show ((nI 36 : Int32) = 37) = False from eq_false (by decide), show ((nI 36 : Int32) = 38) = False from eq_false (by decide), show ((nI 36 : Int32) = 39) = False from eq_false (by decide), show ((nI 36 : Int32) = 41) = False from eq_false (by decide), show ((nI 36 : Int32) = 42) = False from eq_false (by decide), show ((nI 36 : Int32) = 43) = False from eq_false (by decide), show ((nI 36 : Int32) = 44) = False from eq_false (by decide), show ((nI 36 : Int32) = 45) = False from eq_false (by decide), if_false, if_true, p_w31, Option.bind_some]
  by_cases z : y < 0
  · rw [if_pos z, if_pos z, Option.bind_some, if_pos rfl]
    exact ⟨_, rfl, rfl⟩
  · rw [if_neg z, if_neg z]
    by_cases w : y ≤ 31
    · rw [if_pos w, if_pos w, Option.bind_some, if_neg (by decide)]
      exact ⟨_, rfl, rfl⟩
    · rw [if_neg w, if_neg w, Option.bind_some, if_pos rfl]
      exact ⟨_, rfl, rfl⟩
theorem p_two37 (x y : Int32) : ∃ v, f_Rk_joined (nI 37) x y = some v ∧ f_Md_two (nI 37) x y = some v := by
  unfold f_Rk_joined f_Md_two
  simp only [show ((nI 37 : Int32) = 26) = False from eq_false (by decide), show ((nI 37 : Int32) = 27) = False from eq_false (by decide), show ((nI 37 : Int32) = 28) = False from eq_false (by decide), show ((nI 37 : Int32) = 29) = False from eq_false (by decide), show ((nI 37 : Int32) = 30) = False from eq_false (by decide), show ((nI 37 : Int32) = 33) = False from eq_false (by decide), show ((nI 37 : Int32) = 34) = False from eq_false (by decide), show ((nI 37 : Int32) = 36) = False from eq_false (by decide), show ((nI 37 : Int32) = 37) = True from eq_true (by decide), show ((nI 37 : Int32) = 38) = False from eq_false (by decide), show ((nI 37 : Int32) = 39) = False from eq_false (by decide), show ((nI 37 : Int32) = 41) = False from eq_false (by decide), show ((nI 37 : Int32) = 42) = False from eq_false (by decide), show ((nI 37 : Int32) = 43) = False from eq_false (by decide), show ((nI 37 : Int32) = 44) = False from eq_false (by decide), show ((nI 37 : Int32) = 45) = False from eq_false (by decide), if_false, if_true]
  unfold f_Rk_shifted
  simp only [show ((nI 37 : Int32) = 26) = False from eq_false (by decide), show ((nI 37 : Int32) = 27) = False from eq_false (by decide), show ((nI 37 : Int32) = 28) = False from eq_false (by decide), show ((nI 37 : Int32) = 29) = False from eq_false (by decide), show ((nI 37 : Int32) = 30) = False from eq_false (by decide), show ((nI 37 : Int32) = 33) = False from eq_false (by decide), show ((nI 37 : Int32) = 34) = False from eq_false (by decide), show ((nI 37 : Int32) = 36) = False from eq_false (by decide), show ((nI 37 : Int32) = 37) = True from eq_true (by decide), show ((nI 37 : Int32) = 38) = False from eq_false (by decide), show ((nI 37 : Int32) = 39) = False from eq_false (by decide), show ((nI 37 : Int32) = 41) = False from eq_false (by decide), show ((nI 37 : Int32) = 42) = False from eq_false (by decide), show ((nI 37 : Int32) = 43) = False from eq_false (by decide), show ((nI 37 : Int32) = 44) = False from eq_false (by decide), show ((nI 37 : Int32) = 45) = False from eq_false (by decide), if_false, if_true, p_w31, Option.bind_some]
  by_cases z : y < 0
  · rw [if_pos z, if_pos z, Option.bind_some, if_pos rfl]
    exact ⟨_, rfl, rfl⟩
  · rw [if_neg z, if_neg z]
    by_cases w : y ≤ 31
    · rw [if_pos w, if_pos w, Option.bind_some, if_neg (by decide)]
      exact ⟨_, rfl, rfl⟩
    · rw [if_neg w, if_neg w, Option.bind_some, if_pos rfl]
      exact ⟨_, rfl, rfl⟩
theorem p_two38 (x y : Int32) : ∃ v, f_Rk_joined (nI 38) x y = some v ∧ f_Md_two (nI 38) x y = some v := by
  unfold f_Rk_joined f_Md_two
  simp only [show ((nI 38 : Int32) = 26) = False from eq_false (by decide), show ((nI 38 : Int32) = 27) = False from eq_false (by decide), show ((nI 38 : Int32) = 28) = False from eq_false (by decide), show ((nI 38 : Int32) = 29) = False from eq_false (by decide), show ((nI 38 : Int32) = 30) = False from eq_false (by decide), show ((nI 38 : Int32) = 33) = False from eq_false (by decide), show ((nI 38 : Int32) = 34) = False from eq_false (by decide), show ((nI 38 : Int32) = 36) = False from eq_false (by decide), show ((nI 38 : Int32) = 37) = False from eq_false (by decide), show ((nI 38 : Int32) = 38) = True from eq_true (by decide), show ((nI 38 : Int32) = 39) = False from eq_false (by decide), show ((nI 38 : Int32) = 41) = False from eq_false (by decide), show ((nI 38 : Int32) = 42) = False from eq_false (by decide), show ((nI 38 : Int32) = 43) = False from eq_false (by decide), show ((nI 38 : Int32) = 44) = False from eq_false (by decide), show ((nI 38 : Int32) = 45) = False from eq_false (by decide), if_false, if_true]
  unfold f_Rk_shifted
  simp only [show ((nI 38 : Int32) = 26) = False from eq_false (by decide), show ((nI 38 : Int32) = 27) = False from eq_false (by decide), show ((nI 38 : Int32) = 28) = False from eq_false (by decide), show ((nI 38 : Int32) = 29) = False from eq_false (by decide), show ((nI 38 : Int32) = 30) = False from eq_false (by decide), show ((nI 38 : Int32) = 33) = False from eq_false (by decide), show ((nI 38 : Int32) = 34) = False from eq_false (by decide), show ((nI 38 : Int32) = 36) = False from eq_false (by decide), show ((nI 38 : Int32) = 37) = False from eq_false (by decide), show ((nI 38 : Int32) = 38) = True from eq_true (by decide), show ((nI 38 : Int32) = 39) = False from eq_false (by decide), show ((nI 38 : Int32) = 41) = False from eq_false (by decide), show ((nI 38 : Int32) = 42) = False from eq_false (by decide), show ((nI 38 : Int32) = 43) = False from eq_false (by decide), show ((nI 38 : Int32) = 44) = False from eq_false (by decide), show ((nI 38 : Int32) = 45) = False from eq_false (by decide), if_false, if_true, p_w31, Option.bind_some]
  by_cases z : y < 0
  · rw [if_pos z, if_pos z, if_pos rfl]
    by_cases n : 0 ≤ x
    · rw [if_pos n, Option.bind_some]
      exact ⟨_, rfl, rfl⟩
    · rw [if_neg n, Option.bind_some]
      exact ⟨_, rfl, rfl⟩
  · rw [if_neg z, if_neg z]
    by_cases w : y ≤ 31
    · rw [if_pos w, if_pos w, Option.bind_some, if_neg (by decide)]
      exact ⟨_, rfl, rfl⟩
    · rw [if_neg w, if_neg w, if_pos rfl]
      by_cases n : 0 ≤ x
      · rw [if_pos n, Option.bind_some]
        exact ⟨_, rfl, rfl⟩
      · rw [if_neg n, Option.bind_some]
        exact ⟨_, rfl, rfl⟩
theorem p_two39 (x y : Int32) : ∃ v, f_Rk_joined (nI 39) x y = some v ∧ f_Md_two (nI 39) x y = some v := by
  unfold f_Rk_joined f_Md_two
  simp only [show ((nI 39 : Int32) = 26) = False from eq_false (by decide), show ((nI 39 : Int32) = 27) = False from eq_false (by decide), show ((nI 39 : Int32) = 28) = False from eq_false (by decide), show ((nI 39 : Int32) = 29) = False from eq_false (by decide), show ((nI 39 : Int32) = 30) = False from eq_false (by decide), show ((nI 39 : Int32) = 33) = False from eq_false (by decide), show ((nI 39 : Int32) = 34) = False from eq_false (by decide), show ((nI 39 : Int32) = 36) = False from eq_false (by decide), show ((nI 39 : Int32) = 37) = False from eq_false (by decide), show ((nI 39 : Int32) = 38) = False from eq_false (by decide), show ((nI 39 : Int32) = 39) = True from eq_true (by decide), show ((nI 39 : Int32) = 41) = False from eq_false (by decide), show ((nI 39 : Int32) = 42) = False from eq_false (by decide), show ((nI 39 : Int32) = 43) = False from eq_false (by decide), show ((nI 39 : Int32) = 44) = False from eq_false (by decide), show ((nI 39 : Int32) = 45) = False from eq_false (by decide), if_false, if_true]
  exact ⟨_, rfl, rfl⟩
theorem p_two41 (x y : Int32) : ∃ v, f_Rk_compared (nI 41) x y = some v ∧ f_Md_two (nI 41) x y = some v := by
  unfold f_Rk_compared f_Md_two
  simp only [show ((nI 41 : Int32) = 26) = False from eq_false (by decide), show ((nI 41 : Int32) = 27) = False from eq_false (by decide), show ((nI 41 : Int32) = 28) = False from eq_false (by decide), show ((nI 41 : Int32) = 29) = False from eq_false (by decide), show ((nI 41 : Int32) = 30) = False from eq_false (by decide), show ((nI 41 : Int32) = 33) = False from eq_false (by decide), show ((nI 41 : Int32) = 34) = False from eq_false (by decide), show ((nI 41 : Int32) = 36) = False from eq_false (by decide), show ((nI 41 : Int32) = 37) = False from eq_false (by decide), show ((nI 41 : Int32) = 38) = False from eq_false (by decide), show ((nI 41 : Int32) = 39) = False from eq_false (by decide), show ((nI 41 : Int32) = 41) = True from eq_true (by decide), show ((nI 41 : Int32) = 42) = False from eq_false (by decide), show ((nI 41 : Int32) = 43) = False from eq_false (by decide), show ((nI 41 : Int32) = 44) = False from eq_false (by decide), show ((nI 41 : Int32) = 45) = False from eq_false (by decide), if_false, if_true]
  split <;> exact ⟨_, rfl, rfl⟩
theorem p_two42 (x y : Int32) : ∃ v, f_Rk_compared (nI 42) x y = some v ∧ f_Md_two (nI 42) x y = some v := by
  unfold f_Rk_compared f_Md_two
  simp only [show ((nI 42 : Int32) = 26) = False from eq_false (by decide), show ((nI 42 : Int32) = 27) = False from eq_false (by decide), show ((nI 42 : Int32) = 28) = False from eq_false (by decide), show ((nI 42 : Int32) = 29) = False from eq_false (by decide), show ((nI 42 : Int32) = 30) = False from eq_false (by decide), show ((nI 42 : Int32) = 33) = False from eq_false (by decide), show ((nI 42 : Int32) = 34) = False from eq_false (by decide), show ((nI 42 : Int32) = 36) = False from eq_false (by decide), show ((nI 42 : Int32) = 37) = False from eq_false (by decide), show ((nI 42 : Int32) = 38) = False from eq_false (by decide), show ((nI 42 : Int32) = 39) = False from eq_false (by decide), show ((nI 42 : Int32) = 41) = False from eq_false (by decide), show ((nI 42 : Int32) = 42) = True from eq_true (by decide), show ((nI 42 : Int32) = 43) = False from eq_false (by decide), show ((nI 42 : Int32) = 44) = False from eq_false (by decide), show ((nI 42 : Int32) = 45) = False from eq_false (by decide), if_false, if_true]
  split <;> exact ⟨_, rfl, rfl⟩
theorem p_two43 (x y : Int32) : ∃ v, f_Rk_compared (nI 43) x y = some v ∧ f_Md_two (nI 43) x y = some v := by
  unfold f_Rk_compared f_Md_two
  simp only [show ((nI 43 : Int32) = 26) = False from eq_false (by decide), show ((nI 43 : Int32) = 27) = False from eq_false (by decide), show ((nI 43 : Int32) = 28) = False from eq_false (by decide), show ((nI 43 : Int32) = 29) = False from eq_false (by decide), show ((nI 43 : Int32) = 30) = False from eq_false (by decide), show ((nI 43 : Int32) = 33) = False from eq_false (by decide), show ((nI 43 : Int32) = 34) = False from eq_false (by decide), show ((nI 43 : Int32) = 36) = False from eq_false (by decide), show ((nI 43 : Int32) = 37) = False from eq_false (by decide), show ((nI 43 : Int32) = 38) = False from eq_false (by decide), show ((nI 43 : Int32) = 39) = False from eq_false (by decide), show ((nI 43 : Int32) = 41) = False from eq_false (by decide), show ((nI 43 : Int32) = 42) = False from eq_false (by decide), show ((nI 43 : Int32) = 43) = True from eq_true (by decide), show ((nI 43 : Int32) = 44) = False from eq_false (by decide), show ((nI 43 : Int32) = 45) = False from eq_false (by decide), if_false, if_true]
  split <;> exact ⟨_, rfl, rfl⟩
theorem p_two44 (x y : Int32) : ∃ v, f_Rk_compared (nI 44) x y = some v ∧ f_Md_two (nI 44) x y = some v := by
  unfold f_Rk_compared f_Md_two
  simp only [show ((nI 44 : Int32) = 26) = False from eq_false (by decide), show ((nI 44 : Int32) = 27) = False from eq_false (by decide), show ((nI 44 : Int32) = 28) = False from eq_false (by decide), show ((nI 44 : Int32) = 29) = False from eq_false (by decide), show ((nI 44 : Int32) = 30) = False from eq_false (by decide), show ((nI 44 : Int32) = 33) = False from eq_false (by decide), show ((nI 44 : Int32) = 34) = False from eq_false (by decide), show ((nI 44 : Int32) = 36) = False from eq_false (by decide), show ((nI 44 : Int32) = 37) = False from eq_false (by decide), show ((nI 44 : Int32) = 38) = False from eq_false (by decide), show ((nI 44 : Int32) = 39) = False from eq_false (by decide), show ((nI 44 : Int32) = 41) = False from eq_false (by decide), show ((nI 44 : Int32) = 42) = False from eq_false (by decide), show ((nI 44 : Int32) = 43) = False from eq_false (by decide), show ((nI 44 : Int32) = 44) = True from eq_true (by decide), show ((nI 44 : Int32) = 45) = False from eq_false (by decide), if_false, if_true]
  split <;> exact ⟨_, rfl, rfl⟩
theorem p_two45 (x y : Int32) : ∃ v, f_Rk_compared (nI 45) x y = some v ∧ f_Md_two (nI 45) x y = some v := by
  unfold f_Rk_compared f_Md_two
  simp only [show ((nI 45 : Int32) = 26) = False from eq_false (by decide), show ((nI 45 : Int32) = 27) = False from eq_false (by decide), show ((nI 45 : Int32) = 28) = False from eq_false (by decide), show ((nI 45 : Int32) = 29) = False from eq_false (by decide), show ((nI 45 : Int32) = 30) = False from eq_false (by decide), show ((nI 45 : Int32) = 33) = False from eq_false (by decide), show ((nI 45 : Int32) = 34) = False from eq_false (by decide), show ((nI 45 : Int32) = 36) = False from eq_false (by decide), show ((nI 45 : Int32) = 37) = False from eq_false (by decide), show ((nI 45 : Int32) = 38) = False from eq_false (by decide), show ((nI 45 : Int32) = 39) = False from eq_false (by decide), show ((nI 45 : Int32) = 41) = False from eq_false (by decide), show ((nI 45 : Int32) = 42) = False from eq_false (by decide), show ((nI 45 : Int32) = 43) = False from eq_false (by decide), show ((nI 45 : Int32) = 44) = False from eq_false (by decide), show ((nI 45 : Int32) = 45) = True from eq_true (by decide), if_false, if_true]
  split <;> exact ⟨_, rfl, rfl⟩
theorem p_two46 (x y : Int32) : ∃ v, f_Rk_compared (nI 46) x y = some v ∧ f_Md_two (nI 46) x y = some v := by
  unfold f_Rk_compared f_Md_two
  simp only [show ((nI 46 : Int32) = 26) = False from eq_false (by decide), show ((nI 46 : Int32) = 27) = False from eq_false (by decide), show ((nI 46 : Int32) = 28) = False from eq_false (by decide), show ((nI 46 : Int32) = 29) = False from eq_false (by decide), show ((nI 46 : Int32) = 30) = False from eq_false (by decide), show ((nI 46 : Int32) = 33) = False from eq_false (by decide), show ((nI 46 : Int32) = 34) = False from eq_false (by decide), show ((nI 46 : Int32) = 36) = False from eq_false (by decide), show ((nI 46 : Int32) = 37) = False from eq_false (by decide), show ((nI 46 : Int32) = 38) = False from eq_false (by decide), show ((nI 46 : Int32) = 39) = False from eq_false (by decide), show ((nI 46 : Int32) = 41) = False from eq_false (by decide), show ((nI 46 : Int32) = 42) = False from eq_false (by decide), show ((nI 46 : Int32) = 43) = False from eq_false (by decide), show ((nI 46 : Int32) = 44) = False from eq_false (by decide), show ((nI 46 : Int32) = 45) = False from eq_false (by decide), if_false, if_true]
  split <;> exact ⟨_, rfl, rfl⟩
