/-! PURE: the entry that covers a place -/
theorem p_indexL {fr fi ra isC first range : Nat → Int32} {n : Nat} (hn : n ≤ 16) (hF : ∀ i, i < n → ((fr i = 0) ↔ ¬ isC i = 0) ∧ (isC i = 0 → fi i = first i ∧ ra i = range i)) (p : Int32) : ∀ (k m m' x : Nat), x + k = n → k < m → k < m' → ∃ r, f_La_indexAt_2 m (nI n) fr fi ra p (nI x) = some r ∧ f_Md_entryOf_10 m' (nI n) isC first range p (p.toInt64 &&& 4294967295) (nI x) = some r ∧ (r = -1 ∨ ∃ j, j < n ∧ r = nI j ∧ isC j = 0) := by
  intro k
  induction k with
  | zero =>
    intro m m' x hx hm hm'
    match m, m', hm, hm' with
    | m + 1, m' + 1, _, _ =>
      rw [f_La_indexAt_2, f_Md_entryOf_10, if_pos (nI_le (show n ≤ x by omega) (by omega)), if_pos (nI_le (show n ≤ x by omega) (by omega))]
      exact ⟨-1, rfl, rfl, Or.inl rfl⟩
  | succ k ih =>
    intro m m' x hx hm hm'
    match m, m', hm, hm' with
    | m + 1, m' + 1, hm, hm' =>
      rw [f_La_indexAt_2, f_Md_entryOf_10, if_neg (nI_ge (show x < n by omega) (by omega)), if_neg (nI_ge (show x < n by omega) (by omega)), if_neg (nI_in (show x < 16 by omega) (by omega)), if_neg (nI_in (show x < 16 by omega) (by omega)), if_neg (nI_in (show x < 16 by omega) (by omega)), if_neg (nI_in (show x < 16 by omega) (by omega)), if_neg (nI_in (show x < 16 by omega) (by omega)), nI_clamp (show x < 2 ^ 31 by omega), nI_1]
      obtain ⟨r, g1, g2, g3⟩ := ih m m' (x + 1) (by omega) (by omega) (by omega)
      obtain ⟨f1, f2⟩ := hF x (by omega)
      unfold f_En_covers
      by_cases hc : isC x = 0
      · have hf : ¬ fr x = 0 := fun z => f1.mp z hc
        obtain ⟨e1, e2⟩ := f2 hc
        rw [if_neg hf, if_pos hc, e1, e2]
        by_cases h1 : (lg_cmp (p.toInt64 &&& 4294967295) (first x).toInt64) < 0
        · rw [if_pos h1, if_pos h1, Option.bind_some, if_pos rfl]
          exact ⟨r, g1, g2, g3⟩
        · rw [if_neg h1, if_neg h1]
          by_cases h2 : 0 ≤ (lg_cmp (p.toInt64 &&& 4294967295) ((first x).toInt64 + (range x).toInt64))
          · rw [if_pos h2, if_pos h2, Option.bind_some, if_pos rfl]
            exact ⟨r, g1, g2, g3⟩
          · rw [if_neg h2, if_neg h2, Option.bind_some, if_neg (by decide)]
            exact ⟨nI x, rfl, rfl, Or.inr ⟨x, by omega, rfl, hc⟩⟩
      · rw [if_pos (f1.mpr hc), if_neg hc, Option.bind_some, if_pos rfl]
        exact ⟨r, g1, g2, g3⟩
theorem p_index {fr fi ra isC first range : Nat → Int32} {n : Nat} (hn : n ≤ 16) (hF : ∀ i, i < n → ((fr i = 0) ↔ ¬ isC i = 0) ∧ (isC i = 0 → fi i = first i ∧ ra i = range i)) (p : Int32) : ∃ r, f_La_indexAt (nI n) fr fi ra p = some r ∧ f_Md_entryOf (nI n) isC first range p = some r ∧ (r = -1 ∨ ∃ j, j < n ∧ r = nI j ∧ isC j = 0) :=
  p_indexL hn hF p n LF LF 0 (by omega) (by unfold LF; omega) (by unfold LF; omega)
