/-! PURE: apply -/
theorem p_toCfa {row rok ron ros : Nat → Int32} (h : pRow row rok ron ros) {k : Nat} (hk : k < 8) (op num bf dat : Int32) : ∃ a b c, f_Tr_applyToCfa op (nI k) num bf rok ron ros dat = some (a, b, c) ∧ pRow (if op = 12 then pCfa row 1 num (nI k) else if op = 13 then pCfa row 1 (if row 24 = 1 then row 25 else 0) (nI k) else if op = 14 then pCfa row 1 num (if row 24 = 1 then row 26 else 0) else if op = 18 then pCfa row 1 (num * dat) (nI k) else if op = 19 then pCfa row 1 (num * dat) (if row 24 = 1 then row 26 else 0) else pCfa row 2 bf num) a b c := by
  unfold f_Tr_applyToCfa
  rw [p_cfaReg, p_cfaNum, Option.bind_some, Option.bind_some, Option.bind_some]
  simp only [p_putCfa, Option.bind_some]
  rw [h.2.1, h.2.2.1, h.2.2.2]
  by_cases h1 : op = 12
  · rw [if_pos h1, if_pos h1]; exact ⟨_, _, _, rfl, p_rowCfa h _ _ _⟩
  rw [if_neg h1, if_neg h1]
  by_cases h2 : op = 13
  · rw [if_pos h2, if_pos h2]; exact ⟨_, _, _, rfl, p_rowCfa h _ _ _⟩
  rw [if_neg h2, if_neg h2]
  by_cases h3 : op = 14
  · rw [if_pos h3, if_pos h3]; exact ⟨_, _, _, rfl, p_rowCfa h _ _ _⟩
  rw [if_neg h3, if_neg h3]
  by_cases h4 : op = 18
  · rw [if_pos h4, if_pos h4]; exact ⟨_, _, _, rfl, p_rowCfa h _ _ _⟩
  rw [if_neg h4, if_neg h4]
  by_cases h5 : op = 19
  · rw [if_pos h5, if_pos h5]; exact ⟨_, _, _, rfl, p_rowCfa h _ _ _⟩
  rw [if_neg h5, if_neg h5, show (8 : Int32) = nI 8 from rfl, p_put (by omega), Option.bind_some]
  exact ⟨_, _, _, rfl, p_rowCfa h _ _ _⟩
theorem p_toReg {row rok ron ros crow cok con cos : Nat → Int32} (h : pRow row rok ron ros) (op num bf dat : Int32) (hc : op = 6 → pRow crow cok con cos) {k : Nat} (hk : k < 8) : ∃ a b c, f_Tr_applyToRegister op (nI k) num bf rok ron ros cok con cos dat = some (a, b, c) ∧ pRow (if op = 5 ∨ op = 17 then pRule row k 2 (num * dat) 0 else if op = 6 then pRule row k (crow k) (crow (8 + k)) (crow (16 + k)) else if op = 7 then pRule row k 0 0 0 else if op = 8 then pRule row k 1 0 0 else if op = 9 then pRule row k 4 num 0 else if op = 16 then pRule row k 5 bf num else if op = 20 ∨ op = 21 then pRule row k 3 (num * dat) 0 else pRule row k 6 bf num) a b c := by
  unfold f_Tr_applyToRegister
  have hk9 : k < 9 := by omega
  simp only [p_put hk9, p_copyRule hk9, Option.bind_some]
  by_cases h1 : op = 5 ∨ op = 17
  · rw [if_pos h1, if_pos h1]; exact ⟨_, _, _, rfl, p_rowRule h hk _ _ _⟩
  rw [if_neg h1, if_neg h1]
  by_cases h2 : op = 6
  · rw [if_pos h2, if_pos h2]
    have z := (hc h2).1 k hk
    refine ⟨_, _, _, rfl, ?_⟩
    rw [z.1, z.2.1, z.2.2]
    exact p_rowRule h hk _ _ _
  rw [if_neg h2, if_neg h2]
  by_cases h3 : op = 7
  · rw [if_pos h3, if_pos h3]; exact ⟨_, _, _, rfl, p_rowRule h hk _ _ _⟩
  rw [if_neg h3, if_neg h3]
  by_cases h4 : op = 8
  · rw [if_pos h4, if_pos h4]; exact ⟨_, _, _, rfl, p_rowRule h hk _ _ _⟩
  rw [if_neg h4, if_neg h4]
  by_cases h5 : op = 9
  · rw [if_pos h5, if_pos h5]; exact ⟨_, _, _, rfl, p_rowRule h hk _ _ _⟩
  rw [if_neg h5, if_neg h5]
  by_cases h6 : op = 16
  · rw [if_pos h6, if_pos h6]; exact ⟨_, _, _, rfl, p_rowRule h hk _ _ _⟩
  rw [if_neg h6, if_neg h6]
  by_cases h7 : op = 20 ∨ op = 21
  · rw [if_pos h7, if_pos h7]; exact ⟨_, _, _, rfl, p_rowRule h hk _ _ _⟩
  rw [if_neg h7, if_neg h7]
  exact ⟨_, _, _, rfl, p_rowRule h hk _ _ _⟩
