/-! PURE: one instruction, class against model, at every byte -/
theorem p_I23 {mb bb : Nat → Int32} (hB : pB mb bb) {a L e c d : Nat} (ha : a < L) (hL : L ≤ 512) (he : e < 16) (hc : c < 16) (hd : d ≤ 4) (pl : Int32) (isC common code data row crow kept : Nat → Int32) (hce : common e = nI c) (o0 r0 n0 b0 : Int32) {k : Nat} (h1 : 23 ≤ k) (h2 : k < 64) (hb : mb a = nI k) : pIns L a d (isC e) (code c) (data c) pl row crow kept (f_In_readFrom o0 r0 n0 b0 (nI a) (nI L) 0 bb) (f_Md_instruction (nI a) (nI L) 0 (nI d) pl mb isC common code data row crow kept (nI e)) := by
  have hn : ∀ m : Nat, m < 23 → ¬ nI k = nI m := fun m hm z => absurd ((nI_eq (by omega) (by omega)).mp z) (by omega)
  have w : ∀ lo hi : Nat, hi < 23 → f_Md_within (nI k) (nI lo) (nI hi) = some 0 := fun lo hi hh => by
    rw [p_win]
    by_cases z : nI k < nI lo
    · rw [if_pos z]
    · rw [if_neg z, if_pos (nI_lt (by omega) (by omega))]
  have hM : f_Md_instruction (nI a) (nI L) 0 (nI d) pl mb isC common code data row crow kept (nI e) = some (nI (a + 1), 1, nI d, pl, row, kept) := by
    unfold f_Md_instruction
    rw [p_byte1 mb 0 ha hL, Option.bind_some]
    dsimp only
    rw [hb, if_neg (nI_in he (by omega)), if_neg (nI_in he (by omega)), nI_clamp (show e < 2 ^ 31 by omega), hce, if_pos (show nI k < (192 : Int32) from nI_lt (b := 192) (by omega) (by omega)), if_pos (show nI k < (128 : Int32) from nI_lt (b := 128) (by omega) (by omega)), if_pos (show nI k < (64 : Int32) from nI_lt (b := 64) (by omega) (by omega)), p_a63 k (by omega), Nat.mod_eq_of_lt h2, show f_Md_within (nI k) 1 4 = some 0 from w 1 4 (by omega), Option.bind_some, if_pos rfl, if_neg (show ¬ nI k = (10 : Int32) from hn 10 (by omega)), if_neg (show ¬ nI k = (11 : Int32) from hn 11 (by omega)), if_neg (show ¬ nI k = (6 : Int32) from hn 6 (by omega)), show f_Md_within (nI k) 12 15 = some 0 from w 12 15 (by omega), Option.bind_some, if_pos rfl, if_neg (show ¬ nI k = (18 : Int32) from hn 18 (by omega)), if_neg (show ¬ nI k = (19 : Int32) from hn 19 (by omega)), if_neg (show ¬ nI k = (0 : Int32) from hn 0 (by omega)), if_neg (nI_in hc (by omega)), p_MRN h1 h2, Option.bind_some]
  rw [p_RF hB ha hL h2 hb, p_RoN h1 h2, Option.bind_some, hM]
  exact Or.inr ⟨0, nI k, _, _, _, Or.inl rfl, if_pos rfl, rfl⟩
theorem p_I64 {mb bb : Nat → Int32} (hB : pB mb bb) {a L e c d : Nat} (ha : a < L) (hL : L ≤ 512) (he : e < 16) (hc : c < 16) (hd : d ≤ 4) (pl : Int32) (isC common code data row crow kept : Nat → Int32) (hce : common e = nI c) (o0 r0 n0 b0 : Int32) {k : Nat} (h1 : 64 ≤ k) (h2 : k < 128) (hb : mb a = nI k) : pIns L a d (isC e) (code c) (data c) pl row crow kept (f_In_readFrom o0 r0 n0 b0 (nI a) (nI L) 0 bb) (f_Md_instruction (nI a) (nI L) 0 (nI d) pl mb isC common code data row crow kept (nI e)) := by
  have hR : f_In_readFrom o0 r0 n0 b0 (nI a) (nI L) 0 bb = some (1, 2, nI 0, nI (k % 64), 0, nI (a + 1), 0) := by
    unfold f_In_readFrom
    rw [p_Rbyte1 hB ha hL, Option.bind_some]
    dsimp only
    rw [hb, p_sh6 k (by omega), p_a63 k (by omega), show k / 64 = 1 by omega, if_pos (by decide)]
    exact p_119 (k := 0) (by omega) _ _ _ _ _ _ _ _
  have hM : f_Md_instruction (nI a) (nI L) 0 (nI d) pl mb isC common code data row crow kept (nI e) = some (nI (a + 1), (if isC e = 0 then 0 else 1), nI d, pl + nI (k % 64) * code c, row, kept) := by
    unfold f_Md_instruction f_Md_instruction_116
    rw [p_byte1 mb 0 ha hL, Option.bind_some]
    dsimp only
    rw [hb, if_neg (nI_in he (by omega)), if_neg (nI_in he (by omega)), nI_clamp (show e < 2 ^ 31 by omega), hce, if_pos (show nI k < (192 : Int32) from nI_lt (b := 192) (by omega) (by omega)), if_pos (show nI k < (128 : Int32) from nI_lt (b := 128) (by omega) (by omega)), if_neg (show ¬ nI k < (64 : Int32) from nI_nlt (b := 64) (by omega) (by omega)), p_a63 k (by omega), if_pos rfl, nI_clamp (show c < 2 ^ 31 by omega)]
    have hcc : ¬ (nI c < 0 ∨ 16 ≤ c) := by have := nI_in hc (by omega); rw [nI_clamp (show c < 2 ^ 31 by omega)] at this; exact this
    by_cases hi : isC e = 0
    · rw [if_pos hi, if_pos hi, if_neg hcc]
    · rw [if_neg hi, if_neg hi, if_neg hcc]
  rw [hR, hM]
  by_cases hi : isC e = 0
  · rw [if_pos hi]
    exact Or.inl ⟨nI 2, 0, _, 0, a + 1, d, _, row, kept, by omega, by omega, by omega, hd, p_ok2 hi trivial, p_num2 _ _ _, rfl, rfl, (p_e2 _ _ _ _ _ _ _ _ _ _).symm⟩
  · rw [if_neg hi]
    exact Or.inr ⟨1, nI 2, _, _, _, Or.inr ⟨rfl, p_no2 hi d⟩, rfl, rfl⟩
theorem p_I128 {mb bb : Nat → Int32} (hB : pB mb bb) {a L e c d : Nat} (ha : a < L) (hL : L ≤ 512) (he : e < 16) (hc : c < 16) (hd : d ≤ 4) (pl : Int32) (isC common code data row crow kept : Nat → Int32) (hce : common e = nI c) (o0 r0 n0 b0 : Int32) {k : Nat} (h1 : 128 ≤ k) (h2 : k < 192) (hb : mb a = nI k) : pIns L a d (isC e) (code c) (data c) pl row crow kept (f_In_readFrom o0 r0 n0 b0 (nI a) (nI L) 0 bb) (f_Md_instruction (nI a) (nI L) 0 (nI d) pl mb isC common code data row crow kept (nI e)) := by
  obtain ⟨w, a', b', g1, g2, g3, g4⟩ := p_Mleb mb (show a + 1 ≤ L by omega) hL 0 0
  have hR : f_In_readFrom o0 r0 n0 b0 (nI a) (nI L) 0 bb = f_In_readFrom_119 5 (nI (k % 64)) w 0 (nI a') (nI L) b' bb (nI k) (nI (k % 64)) := by
    unfold f_In_readFrom
    rw [p_Rbyte1 hB ha hL, Option.bind_some]
    dsimp only
    rw [hb, p_sh6 k (by omega), p_a63 k (by omega), show k / 64 = 2 by omega, if_neg (by decide), if_pos (by decide), p_uleb hB (show a + 1 ≤ L by omega) hL, g1, Option.bind_some]
  have hM : f_Md_instruction (nI a) (nI L) 0 (nI d) pl mb isC common code data row crow kept (nI e) = ((f_Md_rule b' row (nI (k % 64)) 2 (w * data c) 0).bind fun q91 => some (nI a', q91.1, nI d, pl, q91.2, kept)) := by
    unfold f_Md_instruction
    rw [p_byte1 mb 0 ha hL, Option.bind_some]
    dsimp only
    rw [hb, if_neg (nI_in he (by omega)), if_neg (nI_in he (by omega)), nI_clamp (show e < 2 ^ 31 by omega), hce, if_pos (show nI k < (192 : Int32) from nI_lt (b := 192) (by omega) (by omega)), if_neg (show ¬ nI k < (128 : Int32) from nI_nlt (b := 128) (by omega) (by omega)), p_a63 k (by omega), g1, Option.bind_some, if_neg (nI_in hc (by omega)), nI_clamp (show c < 2 ^ 31 by omega)]
  rw [hR, hM]
  by_cases hk : k % 64 < 8
  · rw [p_rule _ _ hk, Option.bind_some]
    rcases g4 with rfl | rfl
    · rw [p_119 hk]
      exact Or.inl ⟨nI 5, k % 64, w, 0, a', d, pl, _, kept, hk, by omega, g3, hd, p_ok5 _ _, p_num5 _ _ _, rfl, rfl, (p_e5 _ _ _ _ _ _ _ _ _ _).symm⟩
    · rw [p_119B]
      exact Or.inr ⟨0, 5, _, _, _, Or.inl rfl, rfl, rfl⟩
  · have hx : ¬ ∃ j, j < 8 ∧ nI (k % 64) = nI j := fun ⟨j, hj, z⟩ => hk (by rw [(nI_eq (by omega) (by omega)).mp z]; exact hj)
    rw [p_ruleN _ _ hx, Option.bind_some]
    rcases g4 with rfl | rfl
    · rw [p_119R hx]
      exact Or.inr ⟨0, 5, _, _, _, Or.inl rfl, rfl, rfl⟩
    · rw [p_119B]
      exact Or.inr ⟨0, 5, _, _, _, Or.inl rfl, rfl, rfl⟩
theorem p_I192 {mb bb : Nat → Int32} (hB : pB mb bb) {a L e c d : Nat} (ha : a < L) (hL : L ≤ 512) (he : e < 16) (hc : c < 16) (hd : d ≤ 4) (pl : Int32) (isC common code data row crow kept : Nat → Int32) (hce : common e = nI c) (o0 r0 n0 b0 : Int32) {k : Nat} (h1 : 192 ≤ k) (h2 : k < 256) (hb : mb a = nI k) : pIns L a d (isC e) (code c) (data c) pl row crow kept (f_In_readFrom o0 r0 n0 b0 (nI a) (nI L) 0 bb) (f_Md_instruction (nI a) (nI L) 0 (nI d) pl mb isC common code data row crow kept (nI e)) := by
  have hR : f_In_readFrom o0 r0 n0 b0 (nI a) (nI L) 0 bb = f_In_readFrom_119 6 (nI (k % 64)) 0 0 (nI (a + 1)) (nI L) 0 bb (nI k) (nI (k % 64)) := by
    unfold f_In_readFrom
    rw [p_Rbyte1 hB ha hL, Option.bind_some]
    dsimp only
    rw [hb, p_sh6 k (by omega), p_a63 k (by omega), show k / 64 = 3 by omega, if_neg (by decide), if_neg (by decide), if_pos (by decide)]
  have hM : f_Md_instruction (nI a) (nI L) 0 (nI d) pl mb isC common code data row crow kept (nI e) = ((f_Md_restore (if isC e = 0 then 0 else 1) row crow (nI (k % 64))).bind fun q57 => some (nI (a + 1), q57.1, nI d, pl, q57.2, kept)) := by
    unfold f_Md_instruction
    rw [p_byte1 mb 0 ha hL, Option.bind_some]
    dsimp only
    rw [hb, if_neg (nI_in he (by omega)), if_neg (nI_in he (by omega)), nI_clamp (show e < 2 ^ 31 by omega), if_neg (show ¬ nI k < (192 : Int32) from nI_nlt (b := 192) (by omega) (by omega)), p_a63 k (by omega), if_pos rfl]
    by_cases hi : isC e = 0
    · rw [if_pos hi, if_pos hi]
    · rw [if_neg hi, if_neg hi]
  rw [hR, hM]
  by_cases hk : k % 64 < 8
  · rw [p_restore _ _ _ hk, Option.bind_some, p_119 hk]
    by_cases hi : isC e = 0
    · rw [if_pos hi]
      exact Or.inl ⟨nI 6, k % 64, 0, 0, a + 1, d, pl, _, kept, hk, by omega, by omega, hd, p_ok6 hi trivial, p_num6 _ _ _, rfl, rfl, (p_e6 _ _ _ _ _ _ _ _ _ _).symm⟩
    · rw [if_neg hi]
      exact Or.inr ⟨1, nI 6, _, _, _, Or.inr ⟨rfl, p_no6 hi d⟩, rfl, rfl⟩
  · have hx : ¬ ∃ j, j < 8 ∧ nI (k % 64) = nI j := fun ⟨j, hj, z⟩ => hk (by rw [(nI_eq (by omega) (by omega)).mp z]; exact hj)
    rw [p_restoreN _ _ _ hx, Option.bind_some, p_119R hx]
    exact Or.inr ⟨0, 6, _, _, _, Or.inl rfl, rfl, rfl⟩
/-- ONE INSTRUCTION -/
theorem p_ins {mb bb : Nat → Int32} (hB : pB mb bb) {a L e c d : Nat} (ha : a < L) (hL : L ≤ 512) (he : e < 16) (hc : c < 16) (hd : d ≤ 4) (pl : Int32) (isC common code data row crow kept : Nat → Int32) (hce : common e = nI c) (o0 r0 n0 b0 : Int32) : pIns L a d (isC e) (code c) (data c) pl row crow kept (f_In_readFrom o0 r0 n0 b0 (nI a) (nI L) 0 bb) (f_Md_instruction (nI a) (nI L) 0 (nI d) pl mb isC common code data row crow kept (nI e)) := by
  obtain ⟨k, hk, hb⟩ := p_byteOf hB (show a < 512 by omega)
  rcases Nat.lt_or_ge k 23 with h | h
  · match k, h with
    | 0, _ => exact p_I0 hB ha hL he hc hd pl isC common code data row crow kept hce o0 r0 n0 b0 hb
    | 1, _ => exact p_I1 hB ha hL he hc hd pl isC common code data row crow kept hce o0 r0 n0 b0 hb
    | 2, _ => exact p_I2 hB ha hL he hc hd pl isC common code data row crow kept hce o0 r0 n0 b0 hb
    | 3, _ => exact p_I3 hB ha hL he hc hd pl isC common code data row crow kept hce o0 r0 n0 b0 hb
    | 4, _ => exact p_I4 hB ha hL he hc hd pl isC common code data row crow kept hce o0 r0 n0 b0 hb
    | 5, _ => exact p_I5 hB ha hL he hc hd pl isC common code data row crow kept hce o0 r0 n0 b0 hb
    | 6, _ => exact p_I6 hB ha hL he hc hd pl isC common code data row crow kept hce o0 r0 n0 b0 hb
    | 7, _ => exact p_I7 hB ha hL he hc hd pl isC common code data row crow kept hce o0 r0 n0 b0 hb
    | 8, _ => exact p_I8 hB ha hL he hc hd pl isC common code data row crow kept hce o0 r0 n0 b0 hb
    | 9, _ => exact p_I9 hB ha hL he hc hd pl isC common code data row crow kept hce o0 r0 n0 b0 hb
    | 10, _ => exact p_I10 hB ha hL he hc hd pl isC common code data row crow kept hce o0 r0 n0 b0 hb
    | 11, _ => exact p_I11 hB ha hL he hc hd pl isC common code data row crow kept hce o0 r0 n0 b0 hb
    | 12, _ => exact p_I12 hB ha hL he hc hd pl isC common code data row crow kept hce o0 r0 n0 b0 hb
    | 13, _ => exact p_I13 hB ha hL he hc hd pl isC common code data row crow kept hce o0 r0 n0 b0 hb
    | 14, _ => exact p_I14 hB ha hL he hc hd pl isC common code data row crow kept hce o0 r0 n0 b0 hb
    | 15, _ => exact p_I15 hB ha hL he hc hd pl isC common code data row crow kept hce o0 r0 n0 b0 hb
    | 16, _ => exact p_I16 hB ha hL he hc hd pl isC common code data row crow kept hce o0 r0 n0 b0 hb
    | 17, _ => exact p_I17 hB ha hL he hc hd pl isC common code data row crow kept hce o0 r0 n0 b0 hb
    | 18, _ => exact p_I18 hB ha hL he hc hd pl isC common code data row crow kept hce o0 r0 n0 b0 hb
    | 19, _ => exact p_I19 hB ha hL he hc hd pl isC common code data row crow kept hce o0 r0 n0 b0 hb
    | 20, _ => exact p_I20 hB ha hL he hc hd pl isC common code data row crow kept hce o0 r0 n0 b0 hb
    | 21, _ => exact p_I21 hB ha hL he hc hd pl isC common code data row crow kept hce o0 r0 n0 b0 hb
    | 22, _ => exact p_I22 hB ha hL he hc hd pl isC common code data row crow kept hce o0 r0 n0 b0 hb
    | k + 23, h => exact absurd h (by omega)
  · rcases Nat.lt_or_ge k 64 with h2 | h2
    · exact p_I23 hB ha hL he hc hd pl isC common code data row crow kept hce o0 r0 n0 b0 h h2 hb
    · rcases Nat.lt_or_ge k 128 with h3 | h3
      · exact p_I64 hB ha hL he hc hd pl isC common code data row crow kept hce o0 r0 n0 b0 h2 h3 hb
      · rcases Nat.lt_or_ge k 192 with h4 | h4
        · exact p_I128 hB ha hL he hc hd pl isC common code data row crow kept hce o0 r0 n0 b0 h3 h4 hb
        · exact p_I192 hB ha hL he hc hd pl isC common code data row crow kept hce o0 r0 n0 b0 h4 hk hb
