/-! PURE: addresses -/
/-- an address is a word's, or both say no -/
theorem p_addr (x : Int32) : (∃ j, j < 256 ∧ x = nI (4 * j) ∧ f_Me_has x = some 1 ∧ f_Md_isAddress x = some 1) ∨ ((¬ ∃ j, j < 256 ∧ x = nI (4 * j)) ∧ f_Me_has x = some 0 ∧ f_Md_isAddress x = some 0) := by
  unfold f_Me_has f_Md_isAddress
  rw [if_neg (show ¬ (4 : Int32) = 0 by decide), p_win]
  rcases pk_ix x (n := 1024) (by omega) with h | h | ⟨j, hj, rfl⟩
  · refine Or.inr ⟨?_, ?_, ?_⟩
    · rintro ⟨j, hj, rfl⟩
      exact absurd h (nI_pos (by omega))
    · rw [if_pos h]
    · rw [if_pos h, Option.bind_some, if_pos rfl]
  · have h0 : ¬ x < 0 := fun z => by
      rw [Int32.lt_iff_toInt_lt] at z
      rw [Int32.le_iff_toInt_le, nI_toInt (by omega)] at h
      have e0 : (0 : Int32).toInt = 0 := by decide
      omega
    have h1 : (1020 : Int32) < x := by
      rw [Int32.lt_iff_toInt_lt]
      rw [Int32.le_iff_toInt_le, nI_toInt (by omega)] at h
      have e0 : (1020 : Int32).toInt = 1020 := by decide
      omega
    refine Or.inr ⟨?_, ?_, ?_⟩
    · rintro ⟨j, hj, rfl⟩
      exact absurd h (nI_ge (by omega) (by omega))
    · rw [if_neg h0, if_pos (show (1024 : Int32) ≤ x from h)]
    · rw [if_neg h0, if_pos h1, Option.bind_some, if_pos rfl]
  · have hr : nI j - nI j / 4 * 4 = nI (j % 4) := pk_rem (d := 4) (by omega) (by omega) (by omega)
    rw [if_neg (nI_pos (by omega)), if_neg (show ¬ (1024 : Int32) ≤ nI j from nI_ge (b := 1024) hj (by omega)), if_neg (nI_pos (by omega)), hr]
    by_cases h4 : j % 4 = 0
    · refine Or.inl ⟨j / 4, by omega, by rw [show 4 * (j / 4) = j by omega], ?_, ?_⟩
      · rw [h4, if_pos (by decide)]
      · rw [if_neg (show ¬ (1020 : Int32) < nI j from nI_nlt (a := 1020) (by omega) (by omega)), Option.bind_some, if_neg (by decide), h4, if_pos (by decide)]
    · have hz : ¬ nI (j % 4) = 0 := nI_ne0 (by omega) (by omega)
      refine Or.inr ⟨?_, ?_, ?_⟩
      · rintro ⟨i, hi, z⟩
        have := (nI_eq (by omega) (by omega)).mp z
        omega
      · rw [if_neg hz]
      · by_cases h5 : (1020 : Int32) < nI j
        · rw [if_pos h5, Option.bind_some, if_pos rfl]
        · rw [if_neg h5, Option.bind_some, if_neg (by decide), if_neg hz]
theorem p_ad4 {j : Nat} (h : j < 256) : nI (4 * j) / 4 = nI j := by
  have e : nI (4 * j) / nI 4 = nI (4 * j / 4) := pk_div (by omega) (by omega) (by omega)
  rw [show 4 * j / 4 = j by omega] at e
  exact e
theorem p_load (mw : Nat → Int32) {j : Nat} (h : j < 256) : f_Me_load mw (nI (4 * j)) = some (mw j) := by
  unfold f_Me_load
  rw [if_neg (by decide), p_ad4 h, if_neg (nI_in h (by omega)), nI_clamp (by omega)]
theorem p_store (mw : Nat → Int32) {j : Nat} (h : j < 256) (v : Int32) : f_Me_store mw (nI (4 * j)) v = some (upd mw j v) := by
  unfold f_Me_store
  rw [if_neg (by decide), p_ad4 h, if_neg (nI_in h (by omega)), nI_clamp (by omega)]
theorem p_readWord (rk : Int32) (mw : Nat → Int32) {j : Nat} (h : j < 256) (ha : f_Md_isAddress (nI (4 * j)) = some 1) : f_Md_readWord rk mw (nI (4 * j)) = some (0, mw j) := by
  unfold f_Md_readWord
  rw [ha, Option.bind_some, if_neg (by decide), if_neg (by decide), p_ad4 h, if_neg (nI_in h (by omega)), nI_clamp (by omega)]
theorem p_readWordN (rk : Int32) (mw : Nat → Int32) {x : Int32} (ha : f_Md_isAddress x = some 0) : f_Md_readWord rk mw x = some (4, rk) := by
  unfold f_Md_readWord
  rw [ha, Option.bind_some, if_pos rfl]
