/-! PURE: cfaInstruction and registerInstruction, in short -/
theorem p_MC12 (t l b D : Int32) (mb row : Nat → Int32) : f_Md_cfaInstruction t l b mb row (nI 12) D = ((f_Md_register_ t l b mb).bind fun q => ((f_Md_leb q.2.1 l q.2.2 mb 0).bind fun u => some (u.2.1, u.2.2, pCfa row 1 u.1 q.1))) := by
  unfold f_Md_cfaInstruction
  rw [if_neg (by decide)]
  show (if row 24 = 1 then _ else _) = _
  by_cases ht : row 24 = 1
  · rw [if_pos ht]
    unfold f_Md_cfaInstruction_16 f_Md_cfaInstruction_29
    rw [if_pos (by decide)]
    simp only [p_cfa, Option.bind_some, show ((nI 12 : Int32) = 12) = True from eq_true (by decide), if_true]
  · rw [if_neg ht]
    unfold f_Md_cfaInstruction_16 f_Md_cfaInstruction_29
    rw [if_pos (by decide)]
    simp only [p_cfa, Option.bind_some, show ((nI 12 : Int32) = 12) = True from eq_true (by decide), if_true]
theorem p_MC13 (t l b D : Int32) (mb row : Nat → Int32) : f_Md_cfaInstruction t l b mb row (nI 13) D = ((f_Md_register_ t l b mb).bind fun q => some (q.2.1, q.2.2, pCfa row 1 (if row 24 = 1 then row 25 else 0) q.1)) := by
  unfold f_Md_cfaInstruction
  rw [if_neg (by decide)]
  show (if row 24 = 1 then _ else _) = _
  by_cases ht : row 24 = 1
  · rw [if_pos ht, if_pos ht]
    unfold f_Md_cfaInstruction_16
    rw [if_neg (by decide), if_neg (by decide), if_pos (by decide)]
    simp only [p_cfa, Option.bind_some, show ((1 : Int32) = 0) = False from eq_false (by decide), if_false, show ((25 : Int32) < 0 ∨ 27 ≤ (25 : Nat)) = False from eq_false (by decide), show ((26 : Int32) < 0 ∨ 27 ≤ (26 : Nat)) = False from eq_false (by decide), show (25 : Int32).toNatClampNeg = 25 by decide, show (26 : Int32).toNatClampNeg = 26 by decide]
  · rw [if_neg ht, if_neg ht]
    unfold f_Md_cfaInstruction_16
    rw [if_neg (by decide), if_neg (by decide), if_pos (by decide)]
    simp only [p_cfa, Option.bind_some, if_true]
theorem p_MC14 (t l b D : Int32) (mb row : Nat → Int32) : f_Md_cfaInstruction t l b mb row (nI 14) D = ((f_Md_leb t l b mb 0).bind fun u => some (u.2.1, u.2.2, pCfa row 1 u.1 (if row 24 = 1 then row 26 else 0))) := by
  unfold f_Md_cfaInstruction
  rw [if_neg (by decide)]
  show (if row 24 = 1 then _ else _) = _
  by_cases ht : row 24 = 1
  · rw [if_pos ht, if_pos ht]
    unfold f_Md_cfaInstruction_16 f_Md_cfaInstruction_161
    rw [if_neg (by decide), if_neg (by decide), if_neg (by decide), if_neg (by decide), if_pos (by decide)]
    simp only [p_cfa, Option.bind_some, show ((1 : Int32) = 0) = False from eq_false (by decide), if_false, show ((25 : Int32) < 0 ∨ 27 ≤ (25 : Nat)) = False from eq_false (by decide), show ((26 : Int32) < 0 ∨ 27 ≤ (26 : Nat)) = False from eq_false (by decide), show (25 : Int32).toNatClampNeg = 25 by decide, show (26 : Int32).toNatClampNeg = 26 by decide]
  · rw [if_neg ht, if_neg ht]
    unfold f_Md_cfaInstruction_16 f_Md_cfaInstruction_161
    rw [if_neg (by decide), if_neg (by decide), if_neg (by decide), if_neg (by decide), if_pos (by decide)]
    simp only [p_cfa, Option.bind_some, if_true]
theorem p_MC15 (t l b D : Int32) (mb row : Nat → Int32) : f_Md_cfaInstruction t l b mb row (nI 15) D = ((f_Md_leb t l b mb 0).bind fun u => ((f_Md_block u.2.1 l u.2.2 u.1).bind fun w => some (w.2.1, w.2.2, pCfa row 2 w.1 u.1))) := by
  unfold f_Md_cfaInstruction
  rw [if_neg (by decide)]
  show (if row 24 = 1 then _ else _) = _
  by_cases ht : row 24 = 1
  · rw [if_pos ht]
    unfold f_Md_cfaInstruction_16
    rw [if_neg (by decide), if_neg (by decide), if_neg (by decide), if_pos (by decide)]
    simp only [p_cfa, Option.bind_some]
  · rw [if_neg ht]
    unfold f_Md_cfaInstruction_16
    rw [if_neg (by decide), if_neg (by decide), if_neg (by decide), if_pos (by decide)]
    simp only [p_cfa, Option.bind_some]
theorem p_MC18 (t l b D : Int32) (mb row : Nat → Int32) : f_Md_cfaInstruction t l b mb row (nI 18) D = ((f_Md_register_ t l b mb).bind fun q => ((f_Md_leb q.2.1 l q.2.2 mb 1).bind fun u => some (u.2.1, u.2.2, pCfa row 1 (u.1 * D) q.1))) := by
  unfold f_Md_cfaInstruction
  rw [if_neg (by decide)]
  show (if row 24 = 1 then _ else _) = _
  by_cases ht : row 24 = 1
  · rw [if_pos ht]
    unfold f_Md_cfaInstruction_16 f_Md_cfaInstruction_29
    rw [if_neg (by decide), if_pos (by decide)]
    simp only [p_cfa, Option.bind_some, show ((nI 18 : Int32) = 12) = False from eq_false (by decide), if_false]
  · rw [if_neg ht]
    unfold f_Md_cfaInstruction_16 f_Md_cfaInstruction_29
    rw [if_neg (by decide), if_pos (by decide)]
    simp only [p_cfa, Option.bind_some, show ((nI 18 : Int32) = 12) = False from eq_false (by decide), if_false]
theorem p_MC19 (t l b D : Int32) (mb row : Nat → Int32) : f_Md_cfaInstruction t l b mb row (nI 19) D = ((f_Md_leb t l b mb 1).bind fun u => some (u.2.1, u.2.2, pCfa row 1 (u.1 * D) (if row 24 = 1 then row 26 else 0))) := by
  unfold f_Md_cfaInstruction
  rw [if_neg (by decide)]
  show (if row 24 = 1 then _ else _) = _
  by_cases ht : row 24 = 1
  · rw [if_pos ht, if_pos ht]
    unfold f_Md_cfaInstruction_16 f_Md_cfaInstruction_161
    rw [if_neg (by decide), if_neg (by decide), if_neg (by decide), if_neg (by decide), if_neg (by decide)]
    simp only [p_cfa, Option.bind_some, show ((1 : Int32) = 0) = False from eq_false (by decide), if_false, show ((25 : Int32) < 0 ∨ 27 ≤ (25 : Nat)) = False from eq_false (by decide), show ((26 : Int32) < 0 ∨ 27 ≤ (26 : Nat)) = False from eq_false (by decide), show (25 : Int32).toNatClampNeg = 25 by decide, show (26 : Int32).toNatClampNeg = 26 by decide]
  · rw [if_neg ht, if_neg ht]
    unfold f_Md_cfaInstruction_16 f_Md_cfaInstruction_161
    rw [if_neg (by decide), if_neg (by decide), if_neg (by decide), if_neg (by decide), if_neg (by decide)]
    simp only [p_cfa, Option.bind_some, if_true]
theorem p_MR5 (t l b D : Int32) (mb row : Nat → Int32) : f_Md_registerInstruction t l b mb row (nI 5) D = ((f_Md_register_ t l b mb).bind fun q => ((f_Md_leb q.2.1 l q.2.2 mb 0).bind fun u => ((f_Md_rule u.2.2 row q.1 2 (u.1 * D) 0).bind fun v => some (u.2.1, v.1, v.2)))) := by
  unfold f_Md_registerInstruction
  simp only [show f_Md_within (nI 5) 5 9 = some 1 by rw [p_win]; decide, show f_Md_within (nI 5) 16 17 = some 0 by rw [p_win]; decide, show f_Md_within (nI 5) 20 22 = some 0 by rw [p_win]; decide, Option.bind_some, if_true, show ((1 : Int32) = 0) = False from eq_false (by decide), if_false, f_Md_registerInstruction_38, f_Md_registerInstruction_66, f_Md_registerInstruction_94, f_Md_registerInstruction_118, f_Md_registerInstruction_130, f_Md_registerInstruction_167, show ((nI 5 : Int32) = 7) = False from eq_false (by decide), show ((nI 5 : Int32) = 8) = False from eq_false (by decide), show ((nI 5 : Int32) = 9) = False from eq_false (by decide), show ((nI 5 : Int32) = 5) = True from eq_true (by decide), show ((nI 5 : Int32) = 17) = False from eq_false (by decide), show ((nI 5 : Int32) = 20) = False from eq_false (by decide), show ((nI 5 : Int32) = 21) = False from eq_false (by decide), show ((nI 5 : Int32) = 16) = False from eq_false (by decide), show ((nI 5 : Int32) = 22) = False from eq_false (by decide)]
theorem p_MR7 (t l b D : Int32) (mb row : Nat → Int32) : f_Md_registerInstruction t l b mb row (nI 7) D = ((f_Md_register_ t l b mb).bind fun q => ((f_Md_rule q.2.2 row q.1 0 0 0).bind fun v => some (q.2.1, v.1, v.2))) := by
  unfold f_Md_registerInstruction
  simp only [show f_Md_within (nI 7) 5 9 = some 1 by rw [p_win]; decide, show f_Md_within (nI 7) 16 17 = some 0 by rw [p_win]; decide, show f_Md_within (nI 7) 20 22 = some 0 by rw [p_win]; decide, Option.bind_some, if_true, show ((1 : Int32) = 0) = False from eq_false (by decide), if_false, f_Md_registerInstruction_38, f_Md_registerInstruction_66, f_Md_registerInstruction_94, f_Md_registerInstruction_118, f_Md_registerInstruction_130, f_Md_registerInstruction_167, show ((nI 7 : Int32) = 7) = True from eq_true (by decide), show ((nI 7 : Int32) = 8) = False from eq_false (by decide), show ((nI 7 : Int32) = 9) = False from eq_false (by decide), show ((nI 7 : Int32) = 5) = False from eq_false (by decide), show ((nI 7 : Int32) = 17) = False from eq_false (by decide), show ((nI 7 : Int32) = 20) = False from eq_false (by decide), show ((nI 7 : Int32) = 21) = False from eq_false (by decide), show ((nI 7 : Int32) = 16) = False from eq_false (by decide), show ((nI 7 : Int32) = 22) = False from eq_false (by decide), show (nI 7 - 7 : Int32) = 0 by decide]
theorem p_MR8 (t l b D : Int32) (mb row : Nat → Int32) : f_Md_registerInstruction t l b mb row (nI 8) D = ((f_Md_register_ t l b mb).bind fun q => ((f_Md_rule q.2.2 row q.1 1 0 0).bind fun v => some (q.2.1, v.1, v.2))) := by
  unfold f_Md_registerInstruction
  simp only [show f_Md_within (nI 8) 5 9 = some 1 by rw [p_win]; decide, show f_Md_within (nI 8) 16 17 = some 0 by rw [p_win]; decide, show f_Md_within (nI 8) 20 22 = some 0 by rw [p_win]; decide, Option.bind_some, if_true, show ((1 : Int32) = 0) = False from eq_false (by decide), if_false, f_Md_registerInstruction_38, f_Md_registerInstruction_66, f_Md_registerInstruction_94, f_Md_registerInstruction_118, f_Md_registerInstruction_130, f_Md_registerInstruction_167, show ((nI 8 : Int32) = 7) = False from eq_false (by decide), show ((nI 8 : Int32) = 8) = True from eq_true (by decide), show ((nI 8 : Int32) = 9) = False from eq_false (by decide), show ((nI 8 : Int32) = 5) = False from eq_false (by decide), show ((nI 8 : Int32) = 17) = False from eq_false (by decide), show ((nI 8 : Int32) = 20) = False from eq_false (by decide), show ((nI 8 : Int32) = 21) = False from eq_false (by decide), show ((nI 8 : Int32) = 16) = False from eq_false (by decide), show ((nI 8 : Int32) = 22) = False from eq_false (by decide), show (nI 8 - 7 : Int32) = 1 by decide]
theorem p_MR9 (t l b D : Int32) (mb row : Nat → Int32) : f_Md_registerInstruction t l b mb row (nI 9) D = ((f_Md_register_ t l b mb).bind fun q => ((f_Md_register_ q.2.1 l q.2.2 mb).bind fun u => ((f_Md_rule u.2.2 row q.1 4 u.1 0).bind fun v => some (u.2.1, v.1, v.2)))) := by
  unfold f_Md_registerInstruction
  simp only [show f_Md_within (nI 9) 5 9 = some 1 by rw [p_win]; decide, show f_Md_within (nI 9) 16 17 = some 0 by rw [p_win]; decide, show f_Md_within (nI 9) 20 22 = some 0 by rw [p_win]; decide, Option.bind_some, if_true, show ((1 : Int32) = 0) = False from eq_false (by decide), if_false, f_Md_registerInstruction_38, f_Md_registerInstruction_66, f_Md_registerInstruction_94, f_Md_registerInstruction_118, f_Md_registerInstruction_130, f_Md_registerInstruction_167, show ((nI 9 : Int32) = 7) = False from eq_false (by decide), show ((nI 9 : Int32) = 8) = False from eq_false (by decide), show ((nI 9 : Int32) = 9) = True from eq_true (by decide), show ((nI 9 : Int32) = 5) = False from eq_false (by decide), show ((nI 9 : Int32) = 17) = False from eq_false (by decide), show ((nI 9 : Int32) = 20) = False from eq_false (by decide), show ((nI 9 : Int32) = 21) = False from eq_false (by decide), show ((nI 9 : Int32) = 16) = False from eq_false (by decide), show ((nI 9 : Int32) = 22) = False from eq_false (by decide)]
theorem p_MR16 (t l b D : Int32) (mb row : Nat → Int32) : f_Md_registerInstruction t l b mb row (nI 16) D = ((f_Md_register_ t l b mb).bind fun q => ((f_Md_leb q.2.1 l q.2.2 mb 0).bind fun u => ((f_Md_block u.2.1 l u.2.2 u.1).bind fun w => ((f_Md_rule w.2.2 row q.1 5 w.1 u.1).bind fun v => some (w.2.1, v.1, v.2))))) := by
  unfold f_Md_registerInstruction
  simp only [show f_Md_within (nI 16) 5 9 = some 0 by rw [p_win]; decide, show f_Md_within (nI 16) 16 17 = some 1 by rw [p_win]; decide, show f_Md_within (nI 16) 20 22 = some 0 by rw [p_win]; decide, Option.bind_some, if_true, show ((1 : Int32) = 0) = False from eq_false (by decide), if_false, f_Md_registerInstruction_38, f_Md_registerInstruction_66, f_Md_registerInstruction_94, f_Md_registerInstruction_118, f_Md_registerInstruction_130, f_Md_registerInstruction_167, show ((nI 16 : Int32) = 7) = False from eq_false (by decide), show ((nI 16 : Int32) = 8) = False from eq_false (by decide), show ((nI 16 : Int32) = 9) = False from eq_false (by decide), show ((nI 16 : Int32) = 5) = False from eq_false (by decide), show ((nI 16 : Int32) = 17) = False from eq_false (by decide), show ((nI 16 : Int32) = 20) = False from eq_false (by decide), show ((nI 16 : Int32) = 21) = False from eq_false (by decide), show ((nI 16 : Int32) = 16) = True from eq_true (by decide), show ((nI 16 : Int32) = 22) = False from eq_false (by decide)]
theorem p_MR17 (t l b D : Int32) (mb row : Nat → Int32) : f_Md_registerInstruction t l b mb row (nI 17) D = ((f_Md_register_ t l b mb).bind fun q => ((f_Md_leb q.2.1 l q.2.2 mb 1).bind fun u => ((f_Md_rule u.2.2 row q.1 2 (u.1 * D) 0).bind fun v => some (u.2.1, v.1, v.2)))) := by
  unfold f_Md_registerInstruction
  simp only [show f_Md_within (nI 17) 5 9 = some 0 by rw [p_win]; decide, show f_Md_within (nI 17) 16 17 = some 1 by rw [p_win]; decide, show f_Md_within (nI 17) 20 22 = some 0 by rw [p_win]; decide, Option.bind_some, if_true, show ((1 : Int32) = 0) = False from eq_false (by decide), if_false, f_Md_registerInstruction_38, f_Md_registerInstruction_66, f_Md_registerInstruction_94, f_Md_registerInstruction_118, f_Md_registerInstruction_130, f_Md_registerInstruction_167, show ((nI 17 : Int32) = 7) = False from eq_false (by decide), show ((nI 17 : Int32) = 8) = False from eq_false (by decide), show ((nI 17 : Int32) = 9) = False from eq_false (by decide), show ((nI 17 : Int32) = 5) = False from eq_false (by decide), show ((nI 17 : Int32) = 17) = True from eq_true (by decide), show ((nI 17 : Int32) = 20) = False from eq_false (by decide), show ((nI 17 : Int32) = 21) = False from eq_false (by decide), show ((nI 17 : Int32) = 16) = False from eq_false (by decide), show ((nI 17 : Int32) = 22) = False from eq_false (by decide)]
theorem p_MR20 (t l b D : Int32) (mb row : Nat → Int32) : f_Md_registerInstruction t l b mb row (nI 20) D = ((f_Md_register_ t l b mb).bind fun q => ((f_Md_leb q.2.1 l q.2.2 mb 0).bind fun u => ((f_Md_rule u.2.2 row q.1 3 (u.1 * D) 0).bind fun v => some (u.2.1, v.1, v.2)))) := by
  unfold f_Md_registerInstruction
  simp only [show f_Md_within (nI 20) 5 9 = some 0 by rw [p_win]; decide, show f_Md_within (nI 20) 16 17 = some 0 by rw [p_win]; decide, show f_Md_within (nI 20) 20 22 = some 1 by rw [p_win]; decide, Option.bind_some, if_true, show ((1 : Int32) = 0) = False from eq_false (by decide), if_false, f_Md_registerInstruction_38, f_Md_registerInstruction_66, f_Md_registerInstruction_94, f_Md_registerInstruction_118, f_Md_registerInstruction_130, f_Md_registerInstruction_167, show ((nI 20 : Int32) = 7) = False from eq_false (by decide), show ((nI 20 : Int32) = 8) = False from eq_false (by decide), show ((nI 20 : Int32) = 9) = False from eq_false (by decide), show ((nI 20 : Int32) = 5) = False from eq_false (by decide), show ((nI 20 : Int32) = 17) = False from eq_false (by decide), show ((nI 20 : Int32) = 20) = True from eq_true (by decide), show ((nI 20 : Int32) = 21) = False from eq_false (by decide), show ((nI 20 : Int32) = 16) = False from eq_false (by decide), show ((nI 20 : Int32) = 22) = False from eq_false (by decide)]
theorem p_MR21 (t l b D : Int32) (mb row : Nat → Int32) : f_Md_registerInstruction t l b mb row (nI 21) D = ((f_Md_register_ t l b mb).bind fun q => ((f_Md_leb q.2.1 l q.2.2 mb 1).bind fun u => ((f_Md_rule u.2.2 row q.1 3 (u.1 * D) 0).bind fun v => some (u.2.1, v.1, v.2)))) := by
  unfold f_Md_registerInstruction
  simp only [show f_Md_within (nI 21) 5 9 = some 0 by rw [p_win]; decide, show f_Md_within (nI 21) 16 17 = some 0 by rw [p_win]; decide, show f_Md_within (nI 21) 20 22 = some 1 by rw [p_win]; decide, Option.bind_some, if_true, show ((1 : Int32) = 0) = False from eq_false (by decide), if_false, f_Md_registerInstruction_38, f_Md_registerInstruction_66, f_Md_registerInstruction_94, f_Md_registerInstruction_118, f_Md_registerInstruction_130, f_Md_registerInstruction_167, show ((nI 21 : Int32) = 7) = False from eq_false (by decide), show ((nI 21 : Int32) = 8) = False from eq_false (by decide), show ((nI 21 : Int32) = 9) = False from eq_false (by decide), show ((nI 21 : Int32) = 5) = False from eq_false (by decide), show ((nI 21 : Int32) = 17) = False from eq_false (by decide), show ((nI 21 : Int32) = 20) = False from eq_false (by decide), show ((nI 21 : Int32) = 21) = True from eq_true (by decide), show ((nI 21 : Int32) = 16) = False from eq_false (by decide), show ((nI 21 : Int32) = 22) = False from eq_false (by decide)]
theorem p_MR22 (t l b D : Int32) (mb row : Nat → Int32) : f_Md_registerInstruction t l b mb row (nI 22) D = ((f_Md_register_ t l b mb).bind fun q => ((f_Md_leb q.2.1 l q.2.2 mb 0).bind fun u => ((f_Md_block u.2.1 l u.2.2 u.1).bind fun w => ((f_Md_rule w.2.2 row q.1 6 w.1 u.1).bind fun v => some (w.2.1, v.1, v.2))))) := by
  unfold f_Md_registerInstruction
  simp only [show f_Md_within (nI 22) 5 9 = some 0 by rw [p_win]; decide, show f_Md_within (nI 22) 16 17 = some 0 by rw [p_win]; decide, show f_Md_within (nI 22) 20 22 = some 1 by rw [p_win]; decide, Option.bind_some, if_true, show ((1 : Int32) = 0) = False from eq_false (by decide), if_false, f_Md_registerInstruction_38, f_Md_registerInstruction_66, f_Md_registerInstruction_94, f_Md_registerInstruction_118, f_Md_registerInstruction_130, f_Md_registerInstruction_167, show ((nI 22 : Int32) = 7) = False from eq_false (by decide), show ((nI 22 : Int32) = 8) = False from eq_false (by decide), show ((nI 22 : Int32) = 9) = False from eq_false (by decide), show ((nI 22 : Int32) = 5) = False from eq_false (by decide), show ((nI 22 : Int32) = 17) = False from eq_false (by decide), show ((nI 22 : Int32) = 20) = False from eq_false (by decide), show ((nI 22 : Int32) = 21) = False from eq_false (by decide), show ((nI 22 : Int32) = 16) = False from eq_false (by decide), show ((nI 22 : Int32) = 22) = True from eq_true (by decide)]
theorem p_MRN {k : Nat} (h1 : 23 ≤ k) (h2 : k < 64) (t l b D : Int32) (mb row : Nat → Int32) : f_Md_registerInstruction t l b mb row (nI k) D = some (t, 1, row) := by
  unfold f_Md_registerInstruction
  have w : ∀ lo hi : Nat, hi < 23 → f_Md_within (nI k) (nI lo) (nI hi) = some 0 := fun lo hi hh => by
    rw [p_win]
    by_cases z : nI k < nI lo
    · rw [if_pos z]
    · rw [if_neg z, if_pos (nI_lt (by omega) (by omega))]
  rw [show f_Md_within (nI k) 5 9 = some 0 from w 5 9 (by omega), Option.bind_some, if_pos rfl, show f_Md_within (nI k) 16 17 = some 0 from w 16 17 (by omega), Option.bind_some, if_pos rfl, show f_Md_within (nI k) 20 22 = some 0 from w 20 22 (by omega), Option.bind_some, if_pos rfl]
