/-! PURE: one instruction, at each operation -/
theorem p_byte1 (mb : Nat → Int32) {a L : Nat} (b : Int32) (ha : a < L) (hL : L ≤ 512) : f_Md_unsigned (nI a) (nI L) b mb 1 = some (mb a, nI (a + 1), b) := by
  have h := p_Muns mb (c := 1) b (Nat.le_of_lt ha) hL (by omega)
  rw [if_pos (by omega), p_U1] at h
  exact h
theorem p_sh6 : ∀ k, k < 256 → (nI k >>> ((6 : Int32) &&& 31)) = nI (k / 64) := by decide +kernel
theorem p_a63 : ∀ k, k < 256 → nI k &&& 63 = nI (k % 64) := by decide +kernel
theorem p_Rbyte1 {mb bb : Nat → Int32} (hB : pB mb bb) {a L : Nat} (ha : a < L) (hL : L ≤ 512) : f_Rd_unsigned (nI a) (nI L) 0 bb 1 = some (mb a, nI (a + 1), 0) := by
  have h := p_uns hB (c := 1) (Nat.le_of_lt ha) hL (by omega)
  exact h.trans (p_byte1 mb 0 ha hL)
theorem p_byteOf {mb bb : Nat → Int32} (hB : pB mb bb) {a : Nat} (ha : a < 512) : ∃ k, k < 256 ∧ mb a = nI k := by
  rw [hB a ha]
  exact p_byte (P := fun y => ∃ k, k < 256 ∧ y = nI k) (fun k hk => ⟨k, hk, rfl⟩) (bb a)
theorem p_Ro0 (r n f t l b : Int32) (bb : Nat → Int32) : f_In_readOperands (nI 0) r n f t l b bb = some (1, r, n, f, t, b) := by
  unfold f_In_readOperands
  rw [if_pos (by decide)]
theorem p_Ro1 (r n f t l b : Int32) (bb : Nat → Int32) : f_In_readOperands (nI 1) r n f t l b bb = ((f_Rd_unsigned t l b bb 4).bind fun q139 => some (1, r, q139.1, f, q139.2.1, q139.2.2)) := by
  unfold f_In_readOperands
  rw [if_neg (by decide), if_pos (by decide)]
theorem p_Ro2 (r n f t l b : Int32) (bb : Nat → Int32) : f_In_readOperands (nI 2) r n f t l b bb = ((f_Rd_unsigned t l b bb 1).bind fun q117 => some (1, r, q117.1, f, q117.2.1, q117.2.2)) := by
  unfold f_In_readOperands
  rw [if_neg (by decide), if_neg (by decide), if_pos (by decide)]
theorem p_Ro3 (r n f t l b : Int32) (bb : Nat → Int32) : f_In_readOperands (nI 3) r n f t l b bb = ((f_Rd_unsigned t l b bb 2).bind fun q128 => some (1, r, q128.1, f, q128.2.1, q128.2.2)) := by
  unfold f_In_readOperands
  rw [if_neg (by decide), if_neg (by decide), if_neg (by decide), if_pos (by decide)]
theorem p_Ro4 (r n f t l b : Int32) (bb : Nat → Int32) : f_In_readOperands (nI 4) r n f t l b bb = ((f_Rd_unsigned t l b bb 4).bind fun q139 => some (1, r, q139.1, f, q139.2.1, q139.2.2)) := by
  unfold f_In_readOperands
  rw [if_neg (by decide), if_pos (by decide)]
theorem p_Ro5 (r n f t l b : Int32) (bb : Nat → Int32) : f_In_readOperands (nI 5) r n f t l b bb = ((f_Rd_uleb t l b bb).bind fun q159 => ((f_Rd_uleb q159.2.1 l q159.2.2 bb).bind fun q167 => some (1, q159.1, q167.1, f, q167.2.1, q167.2.2))) := by
  unfold f_In_readOperands
  rw [if_neg (by decide), if_neg (by decide), if_neg (by decide), if_neg (by decide), if_pos (by decide)]
theorem p_Ro6 (r n f t l b : Int32) (bb : Nat → Int32) : f_In_readOperands (nI 6) r n f t l b bb = ((f_Rd_uleb t l b bb).bind fun q149 => some (1, q149.1, n, f, q149.2.1, q149.2.2)) := by
  unfold f_In_readOperands
  rw [if_neg (by decide), if_neg (by decide), if_neg (by decide), if_neg (by decide), if_neg (by decide), if_pos (by decide)]
theorem p_Ro7 (r n f t l b : Int32) (bb : Nat → Int32) : f_In_readOperands (nI 7) r n f t l b bb = ((f_Rd_uleb t l b bb).bind fun q149 => some (1, q149.1, n, f, q149.2.1, q149.2.2)) := by
  unfold f_In_readOperands
  rw [if_neg (by decide), if_neg (by decide), if_neg (by decide), if_neg (by decide), if_neg (by decide), if_pos (by decide)]
theorem p_Ro8 (r n f t l b : Int32) (bb : Nat → Int32) : f_In_readOperands (nI 8) r n f t l b bb = ((f_Rd_uleb t l b bb).bind fun q149 => some (1, q149.1, n, f, q149.2.1, q149.2.2)) := by
  unfold f_In_readOperands
  rw [if_neg (by decide), if_neg (by decide), if_neg (by decide), if_neg (by decide), if_neg (by decide), if_pos (by decide)]
theorem p_Ro9 (r n f t l b : Int32) (bb : Nat → Int32) : f_In_readOperands (nI 9) r n f t l b bb = ((f_Rd_uleb t l b bb).bind fun q195 => ((f_Rd_uleb q195.2.1 l q195.2.2 bb).bind fun q203 => if q203.1 < 0 then (some (0, q195.1, q203.1, f, q203.2.1, q203.2.2)) else (if 8 ≤ q203.1 then (some (0, q195.1, q203.1, f, q203.2.1, q203.2.2)) else (some (1, q195.1, q203.1, f, q203.2.1, q203.2.2))))) := by
  unfold f_In_readOperands
  rw [if_neg (by decide), if_neg (by decide), if_neg (by decide), if_neg (by decide), if_neg (by decide), if_neg (by decide), if_pos (by decide)]
theorem p_Ro10 (r n f t l b : Int32) (bb : Nat → Int32) : f_In_readOperands (nI 10) r n f t l b bb = some (1, r, n, f, t, b) := by
  unfold f_In_readOperands
  rw [if_pos (by decide)]
theorem p_Ro11 (r n f t l b : Int32) (bb : Nat → Int32) : f_In_readOperands (nI 11) r n f t l b bb = some (1, r, n, f, t, b) := by
  unfold f_In_readOperands
  rw [if_pos (by decide)]
theorem p_Ro12 (r n f t l b : Int32) (bb : Nat → Int32) : f_In_readOperands (nI 12) r n f t l b bb = ((f_Rd_uleb t l b bb).bind fun q159 => ((f_Rd_uleb q159.2.1 l q159.2.2 bb).bind fun q167 => some (1, q159.1, q167.1, f, q167.2.1, q167.2.2))) := by
  unfold f_In_readOperands
  rw [if_neg (by decide), if_neg (by decide), if_neg (by decide), if_neg (by decide), if_pos (by decide)]
theorem p_Ro13 (r n f t l b : Int32) (bb : Nat → Int32) : f_In_readOperands (nI 13) r n f t l b bb = ((f_Rd_uleb t l b bb).bind fun q149 => some (1, q149.1, n, f, q149.2.1, q149.2.2)) := by
  unfold f_In_readOperands
  rw [if_neg (by decide), if_neg (by decide), if_neg (by decide), if_neg (by decide), if_neg (by decide), if_pos (by decide)]
theorem p_Ro14 (r n f t l b : Int32) (bb : Nat → Int32) : f_In_readOperands (nI 14) r n f t l b bb = ((f_Rd_uleb t l b bb).bind fun q233 => some (1, r, q233.1, f, q233.2.1, q233.2.2)) := by
  unfold f_In_readOperands
  rw [if_neg (by decide), if_neg (by decide), if_neg (by decide), if_neg (by decide), if_neg (by decide), if_neg (by decide), if_neg (by decide), if_pos (by decide)]
theorem p_Ro15 (r n f t l b : Int32) (bb : Nat → Int32) : f_In_readOperands (nI 15) r n f t l b bb = ((f_In_readBlock n f t l b bb).bind fun q268 => some (1, r, q268.1, q268.2.1, q268.2.2.1, q268.2.2.2)) := by
  unfold f_In_readOperands
  rw [if_neg (by decide), if_neg (by decide), if_neg (by decide), if_neg (by decide), if_neg (by decide), if_neg (by decide), if_neg (by decide), if_neg (by decide), if_pos (by decide)]
theorem p_Ro16 (r n f t l b : Int32) (bb : Nat → Int32) : f_In_readOperands (nI 16) r n f t l b bb = ((f_Rd_uleb t l b bb).bind fun q253 => ((f_In_readBlock n f q253.2.1 l q253.2.2 bb).bind fun q261 => some (1, q253.1, q261.1, q261.2.1, q261.2.2.1, q261.2.2.2))) := by
  unfold f_In_readOperands
  rw [if_neg (by decide), if_neg (by decide), if_neg (by decide), if_neg (by decide), if_neg (by decide), if_neg (by decide), if_neg (by decide), if_neg (by decide), if_neg (by decide), if_pos (by decide)]
theorem p_Ro17 (r n f t l b : Int32) (bb : Nat → Int32) : f_In_readOperands (nI 17) r n f t l b bb = ((f_Rd_uleb t l b bb).bind fun q177 => ((f_Rd_sleb q177.2.1 l q177.2.2 bb).bind fun q185 => some (1, q177.1, q185.1, f, q185.2.1, q185.2.2))) := by
  unfold f_In_readOperands
  rw [if_neg (by decide), if_neg (by decide), if_neg (by decide), if_neg (by decide), if_neg (by decide), if_neg (by decide), if_neg (by decide), if_neg (by decide), if_neg (by decide), if_neg (by decide), if_pos (by decide)]
theorem p_Ro18 (r n f t l b : Int32) (bb : Nat → Int32) : f_In_readOperands (nI 18) r n f t l b bb = ((f_Rd_uleb t l b bb).bind fun q177 => ((f_Rd_sleb q177.2.1 l q177.2.2 bb).bind fun q185 => some (1, q177.1, q185.1, f, q185.2.1, q185.2.2))) := by
  unfold f_In_readOperands
  rw [if_neg (by decide), if_neg (by decide), if_neg (by decide), if_neg (by decide), if_neg (by decide), if_neg (by decide), if_neg (by decide), if_neg (by decide), if_neg (by decide), if_neg (by decide), if_pos (by decide)]
theorem p_Ro19 (r n f t l b : Int32) (bb : Nat → Int32) : f_In_readOperands (nI 19) r n f t l b bb = ((f_Rd_sleb t l b bb).bind fun q243 => some (1, r, q243.1, f, q243.2.1, q243.2.2)) := by
  unfold f_In_readOperands
  rw [if_neg (by decide), if_neg (by decide), if_neg (by decide), if_neg (by decide), if_neg (by decide), if_neg (by decide), if_neg (by decide), if_neg (by decide), if_neg (by decide), if_neg (by decide), if_neg (by decide), if_pos (by decide)]
theorem p_Ro20 (r n f t l b : Int32) (bb : Nat → Int32) : f_In_readOperands (nI 20) r n f t l b bb = ((f_Rd_uleb t l b bb).bind fun q159 => ((f_Rd_uleb q159.2.1 l q159.2.2 bb).bind fun q167 => some (1, q159.1, q167.1, f, q167.2.1, q167.2.2))) := by
  unfold f_In_readOperands
  rw [if_neg (by decide), if_neg (by decide), if_neg (by decide), if_neg (by decide), if_pos (by decide)]
theorem p_Ro21 (r n f t l b : Int32) (bb : Nat → Int32) : f_In_readOperands (nI 21) r n f t l b bb = ((f_Rd_uleb t l b bb).bind fun q177 => ((f_Rd_sleb q177.2.1 l q177.2.2 bb).bind fun q185 => some (1, q177.1, q185.1, f, q185.2.1, q185.2.2))) := by
  unfold f_In_readOperands
  rw [if_neg (by decide), if_neg (by decide), if_neg (by decide), if_neg (by decide), if_neg (by decide), if_neg (by decide), if_neg (by decide), if_neg (by decide), if_neg (by decide), if_neg (by decide), if_pos (by decide)]
theorem p_Ro22 (r n f t l b : Int32) (bb : Nat → Int32) : f_In_readOperands (nI 22) r n f t l b bb = ((f_Rd_uleb t l b bb).bind fun q253 => ((f_In_readBlock n f q253.2.1 l q253.2.2 bb).bind fun q261 => some (1, q253.1, q261.1, q261.2.1, q261.2.2.1, q261.2.2.2))) := by
  unfold f_In_readOperands
  rw [if_neg (by decide), if_neg (by decide), if_neg (by decide), if_neg (by decide), if_neg (by decide), if_neg (by decide), if_neg (by decide), if_neg (by decide), if_neg (by decide), if_pos (by decide)]
theorem p_RoN {k : Nat} (h1 : 23 ≤ k) (h2 : k < 64) (r n f t l b : Int32) (bb : Nat → Int32) : f_In_readOperands (nI k) r n f t l b bb = some (0, r, n, f, t, b) := by
  have hn : ∀ m : Nat, m < 23 → ¬ nI k = nI m := fun m hm z => absurd ((nI_eq (by omega) (by omega)).mp z) (by omega)
  unfold f_In_readOperands
  rw [if_neg (show ¬ (nI k = (0 : Int32) ∨ nI k = (10 : Int32) ∨ nI k = (11 : Int32)) from by rintro (z | z | z) <;> first | exact hn 0 (by omega) z | exact hn 10 (by omega) z | exact hn 11 (by omega) z), if_neg (show ¬ (nI k = (1 : Int32) ∨ nI k = (4 : Int32)) from by rintro (z | z) <;> first | exact hn 1 (by omega) z | exact hn 4 (by omega) z), if_neg (show ¬ (nI k = (2 : Int32)) from by exact hn 2 (by omega)), if_neg (show ¬ (nI k = (3 : Int32)) from by exact hn 3 (by omega)), if_neg (show ¬ (nI k = (5 : Int32) ∨ nI k = (12 : Int32) ∨ nI k = (20 : Int32)) from by rintro (z | z | z) <;> first | exact hn 5 (by omega) z | exact hn 12 (by omega) z | exact hn 20 (by omega) z), if_neg (show ¬ (nI k = (6 : Int32) ∨ nI k = (7 : Int32) ∨ nI k = (8 : Int32) ∨ nI k = (13 : Int32)) from by rintro (z | z | z | z) <;> first | exact hn 6 (by omega) z | exact hn 7 (by omega) z | exact hn 8 (by omega) z | exact hn 13 (by omega) z), if_neg (show ¬ (nI k = (9 : Int32)) from by exact hn 9 (by omega)), if_neg (show ¬ (nI k = (14 : Int32)) from by exact hn 14 (by omega)), if_neg (show ¬ (nI k = (15 : Int32)) from by exact hn 15 (by omega)), if_neg (show ¬ (nI k = (16 : Int32) ∨ nI k = (22 : Int32)) from by rintro (z | z) <;> first | exact hn 16 (by omega) z | exact hn 22 (by omega) z), if_neg (show ¬ (nI k = (17 : Int32) ∨ nI k = (18 : Int32) ∨ nI k = (21 : Int32)) from by rintro (z | z | z) <;> first | exact hn 17 (by omega) z | exact hn 18 (by omega) z | exact hn 21 (by omega) z), if_neg (show ¬ (nI k = (19 : Int32)) from by exact hn 19 (by omega))]
theorem p_M0 {a L e c : Nat} (ha : a < L) (hL : L ≤ 512) (he : e < 16) (hc : c < 16) (kd pl : Int32) (mb isC common code data row crow kept : Nat → Int32) (hce : common e = nI c) (hb : mb a = nI 0) : f_Md_instruction (nI a) (nI L) 0 kd pl mb isC common code data row crow kept (nI e) = some (nI (a + 1), 0, kd, pl, row, kept) := by
  unfold f_Md_instruction
  rw [p_byte1 mb 0 ha hL, Option.bind_some]
  dsimp only
  rw [hb, if_neg (nI_in he (by omega)), if_neg (nI_in he (by omega)), nI_clamp (show e < 2 ^ 31 by omega), hce, if_pos (by decide), if_pos (by decide), if_pos (by decide), show (nI 0 &&& 63 : Int32) = nI 0 by decide, show f_Md_within (nI 0) 1 4 = some 0 by rw [p_win]; decide, Option.bind_some, if_pos (by decide), if_neg (by decide), if_neg (by decide), if_neg (by decide), show f_Md_within (nI 0) 12 15 = some 0 by rw [p_win]; decide, Option.bind_some, if_pos (by decide), if_neg (by decide), if_neg (by decide), if_pos (by decide)]
theorem p_M1 {a L e c : Nat} (ha : a < L) (hL : L ≤ 512) (he : e < 16) (hc : c < 16) (kd pl : Int32) (mb isC common code data row crow kept : Nat → Int32) (hce : common e = nI c) (hb : mb a = nI 1) : f_Md_instruction (nI a) (nI L) 0 kd pl mb isC common code data row crow kept (nI e) = ((f_Md_unsigned (nI (a + 1)) (nI L) (if isC e = 0 then 0 else 1) mb 4).bind fun q => some (q.2.1, q.2.2, kd, q.1, row, kept)) := by
  unfold f_Md_instruction
  rw [p_byte1 mb 0 ha hL, Option.bind_some]
  dsimp only
  rw [hb, if_neg (nI_in he (by omega)), if_neg (nI_in he (by omega)), nI_clamp (show e < 2 ^ 31 by omega), hce, if_pos (by decide), if_pos (by decide), if_pos (by decide), show (nI 1 &&& 63 : Int32) = nI 1 by decide, show f_Md_within (nI 1) 1 4 = some 1 by rw [p_win]; decide, Option.bind_some, if_neg (by decide), if_pos rfl]
  have key : ∀ s0 : Int32, s0 = 0 ∨ s0 = 1 → f_Md_instruction_172 (nI (a + 1)) (nI L) 0 kd pl mb isC common code data row crow kept (nI e) (nI 1) (nI 1) (nI c) (isC e) s0 = ((f_Md_unsigned (nI (a + 1)) (nI L) s0 mb 4).bind fun q => some (q.2.1, q.2.2, kd, q.1, row, kept)) := fun s0 h0 => by
    unfold f_Md_instruction_172 f_Md_instruction_204
    rw [if_neg (fun z => z h0), if_pos (by decide)]
    generalize f_Md_unsigned (nI (a + 1)) (nI L) s0 mb 4 = o
    cases o with
    | none => rw [Option.bind_none, Option.bind_none]
    | some q => rw [Option.bind_some, Option.bind_some, if_pos (by decide)]
  by_cases hi : isC e = 0
  · rw [if_pos hi, if_pos hi]
    exact key 0 (Or.inl rfl)
  · rw [if_neg hi, if_neg hi]
    exact key 1 (Or.inr rfl)
theorem p_M2 {a L e c : Nat} (ha : a < L) (hL : L ≤ 512) (he : e < 16) (hc : c < 16) (kd pl : Int32) (mb isC common code data row crow kept : Nat → Int32) (hce : common e = nI c) (hb : mb a = nI 2) : f_Md_instruction (nI a) (nI L) 0 kd pl mb isC common code data row crow kept (nI e) = ((f_Md_unsigned (nI (a + 1)) (nI L) (if isC e = 0 then 0 else 1) mb 1).bind fun q => some (q.2.1, q.2.2, kd, pl + (q.1 * code c), row, kept)) := by
  unfold f_Md_instruction
  rw [p_byte1 mb 0 ha hL, Option.bind_some]
  dsimp only
  rw [hb, if_neg (nI_in he (by omega)), if_neg (nI_in he (by omega)), nI_clamp (show e < 2 ^ 31 by omega), hce, if_pos (by decide), if_pos (by decide), if_pos (by decide), show (nI 2 &&& 63 : Int32) = nI 2 by decide, show f_Md_within (nI 2) 1 4 = some 1 by rw [p_win]; decide, Option.bind_some, if_neg (by decide), if_pos rfl]
  have key : ∀ s0 : Int32, s0 = 0 ∨ s0 = 1 → f_Md_instruction_172 (nI (a + 1)) (nI L) 0 kd pl mb isC common code data row crow kept (nI e) (nI 2) (nI 2) (nI c) (isC e) s0 = ((f_Md_unsigned (nI (a + 1)) (nI L) s0 mb 1).bind fun q => some (q.2.1, q.2.2, kd, pl + (q.1 * code c), row, kept)) := fun s0 h0 => by
    unfold f_Md_instruction_172 f_Md_instruction_204
    rw [if_neg (fun z => z h0), if_neg (by decide), if_pos (by decide)]
    generalize f_Md_unsigned (nI (a + 1)) (nI L) s0 mb 1 = o
    cases o with
    | none => rw [Option.bind_none, Option.bind_none]
    | some q => rw [Option.bind_some, Option.bind_some, if_neg (by decide), if_neg (nI_in hc (by omega)), nI_clamp (show c < 2 ^ 31 by omega)]
  by_cases hi : isC e = 0
  · rw [if_pos hi, if_pos hi]
    exact key 0 (Or.inl rfl)
  · rw [if_neg hi, if_neg hi]
    exact key 1 (Or.inr rfl)
theorem p_M3 {a L e c : Nat} (ha : a < L) (hL : L ≤ 512) (he : e < 16) (hc : c < 16) (kd pl : Int32) (mb isC common code data row crow kept : Nat → Int32) (hce : common e = nI c) (hb : mb a = nI 3) : f_Md_instruction (nI a) (nI L) 0 kd pl mb isC common code data row crow kept (nI e) = ((f_Md_unsigned (nI (a + 1)) (nI L) (if isC e = 0 then 0 else 1) mb 2).bind fun q => some (q.2.1, q.2.2, kd, pl + (q.1 * code c), row, kept)) := by
  unfold f_Md_instruction
  rw [p_byte1 mb 0 ha hL, Option.bind_some]
  dsimp only
  rw [hb, if_neg (nI_in he (by omega)), if_neg (nI_in he (by omega)), nI_clamp (show e < 2 ^ 31 by omega), hce, if_pos (by decide), if_pos (by decide), if_pos (by decide), show (nI 3 &&& 63 : Int32) = nI 3 by decide, show f_Md_within (nI 3) 1 4 = some 1 by rw [p_win]; decide, Option.bind_some, if_neg (by decide), if_pos rfl]
  have key : ∀ s0 : Int32, s0 = 0 ∨ s0 = 1 → f_Md_instruction_172 (nI (a + 1)) (nI L) 0 kd pl mb isC common code data row crow kept (nI e) (nI 3) (nI 3) (nI c) (isC e) s0 = ((f_Md_unsigned (nI (a + 1)) (nI L) s0 mb 2).bind fun q => some (q.2.1, q.2.2, kd, pl + (q.1 * code c), row, kept)) := fun s0 h0 => by
    unfold f_Md_instruction_172 f_Md_instruction_204
    rw [if_neg (fun z => z h0), if_neg (by decide), if_neg (by decide), if_pos (by decide)]
    generalize f_Md_unsigned (nI (a + 1)) (nI L) s0 mb 2 = o
    cases o with
    | none => rw [Option.bind_none, Option.bind_none]
    | some q => rw [Option.bind_some, Option.bind_some, if_neg (by decide), if_neg (nI_in hc (by omega)), nI_clamp (show c < 2 ^ 31 by omega)]
  by_cases hi : isC e = 0
  · rw [if_pos hi, if_pos hi]
    exact key 0 (Or.inl rfl)
  · rw [if_neg hi, if_neg hi]
    exact key 1 (Or.inr rfl)
theorem p_M4 {a L e c : Nat} (ha : a < L) (hL : L ≤ 512) (he : e < 16) (hc : c < 16) (kd pl : Int32) (mb isC common code data row crow kept : Nat → Int32) (hce : common e = nI c) (hb : mb a = nI 4) : f_Md_instruction (nI a) (nI L) 0 kd pl mb isC common code data row crow kept (nI e) = ((f_Md_unsigned (nI (a + 1)) (nI L) (if isC e = 0 then 0 else 1) mb 4).bind fun q => some (q.2.1, q.2.2, kd, pl + (q.1 * code c), row, kept)) := by
  unfold f_Md_instruction
  rw [p_byte1 mb 0 ha hL, Option.bind_some]
  dsimp only
  rw [hb, if_neg (nI_in he (by omega)), if_neg (nI_in he (by omega)), nI_clamp (show e < 2 ^ 31 by omega), hce, if_pos (by decide), if_pos (by decide), if_pos (by decide), show (nI 4 &&& 63 : Int32) = nI 4 by decide, show f_Md_within (nI 4) 1 4 = some 1 by rw [p_win]; decide, Option.bind_some, if_neg (by decide), if_pos rfl]
  have key : ∀ s0 : Int32, s0 = 0 ∨ s0 = 1 → f_Md_instruction_172 (nI (a + 1)) (nI L) 0 kd pl mb isC common code data row crow kept (nI e) (nI 4) (nI 4) (nI c) (isC e) s0 = ((f_Md_unsigned (nI (a + 1)) (nI L) s0 mb 4).bind fun q => some (q.2.1, q.2.2, kd, pl + (q.1 * code c), row, kept)) := fun s0 h0 => by
    unfold f_Md_instruction_172 f_Md_instruction_204
    rw [if_neg (fun z => z h0), if_neg (by decide), if_neg (by decide), if_neg (by decide)]
    generalize f_Md_unsigned (nI (a + 1)) (nI L) s0 mb 4 = o
    cases o with
    | none => rw [Option.bind_none, Option.bind_none]
    | some q => rw [Option.bind_some, Option.bind_some, if_neg (by decide), if_neg (nI_in hc (by omega)), nI_clamp (show c < 2 ^ 31 by omega)]
  by_cases hi : isC e = 0
  · rw [if_pos hi, if_pos hi]
    exact key 0 (Or.inl rfl)
  · rw [if_neg hi, if_neg hi]
    exact key 1 (Or.inr rfl)
theorem p_M5 {a L e c : Nat} (ha : a < L) (hL : L ≤ 512) (he : e < 16) (hc : c < 16) (kd pl : Int32) (mb isC common code data row crow kept : Nat → Int32) (hce : common e = nI c) (hb : mb a = nI 5) : f_Md_instruction (nI a) (nI L) 0 kd pl mb isC common code data row crow kept (nI e) = ((f_Md_registerInstruction (nI (a + 1)) (nI L) 0 mb row (nI 5) (data c)).bind fun q => some (q.1, q.2.1, kd, pl, q.2.2, kept)) := by
  unfold f_Md_instruction
  rw [p_byte1 mb 0 ha hL, Option.bind_some]
  dsimp only
  rw [hb, if_neg (nI_in he (by omega)), if_neg (nI_in he (by omega)), nI_clamp (show e < 2 ^ 31 by omega), hce, if_pos (by decide), if_pos (by decide), if_pos (by decide), show (nI 5 &&& 63 : Int32) = nI 5 by decide, show f_Md_within (nI 5) 1 4 = some 0 by rw [p_win]; decide, Option.bind_some, if_pos (by decide), if_neg (by decide), if_neg (by decide), if_neg (by decide), show f_Md_within (nI 5) 12 15 = some 0 by rw [p_win]; decide, Option.bind_some, if_pos (by decide), if_neg (by decide), if_neg (by decide), if_neg (by decide), if_neg (nI_in hc (by omega)), nI_clamp (show c < 2 ^ 31 by omega)]
theorem p_M6 {a L e c : Nat} (ha : a < L) (hL : L ≤ 512) (he : e < 16) (hc : c < 16) (kd pl : Int32) (mb isC common code data row crow kept : Nat → Int32) (hce : common e = nI c) (hb : mb a = nI 6) : f_Md_instruction (nI a) (nI L) 0 kd pl mb isC common code data row crow kept (nI e) = ((f_Md_register_ (nI (a + 1)) (nI L) (if isC e = 0 then 0 else 1) mb).bind fun q => ((f_Md_restore q.2.2 row crow q.1).bind fun u => some (q.2.1, u.1, kd, pl, u.2, kept))) := by
  unfold f_Md_instruction
  rw [p_byte1 mb 0 ha hL, Option.bind_some]
  dsimp only
  rw [hb, if_neg (nI_in he (by omega)), if_neg (nI_in he (by omega)), nI_clamp (show e < 2 ^ 31 by omega), hce, if_pos (by decide), if_pos (by decide), if_pos (by decide), show (nI 6 &&& 63 : Int32) = nI 6 by decide, show f_Md_within (nI 6) 1 4 = some 0 by rw [p_win]; decide, Option.bind_some, if_pos (by decide), if_neg (by decide), if_neg (by decide), if_pos (by decide), if_pos rfl]
  by_cases hi : isC e = 0
  · rw [if_pos hi, if_pos hi]
  · rw [if_neg hi, if_neg hi]
theorem p_M7 {a L e c : Nat} (ha : a < L) (hL : L ≤ 512) (he : e < 16) (hc : c < 16) (kd pl : Int32) (mb isC common code data row crow kept : Nat → Int32) (hce : common e = nI c) (hb : mb a = nI 7) : f_Md_instruction (nI a) (nI L) 0 kd pl mb isC common code data row crow kept (nI e) = ((f_Md_registerInstruction (nI (a + 1)) (nI L) 0 mb row (nI 7) (data c)).bind fun q => some (q.1, q.2.1, kd, pl, q.2.2, kept)) := by
  unfold f_Md_instruction
  rw [p_byte1 mb 0 ha hL, Option.bind_some]
  dsimp only
  rw [hb, if_neg (nI_in he (by omega)), if_neg (nI_in he (by omega)), nI_clamp (show e < 2 ^ 31 by omega), hce, if_pos (by decide), if_pos (by decide), if_pos (by decide), show (nI 7 &&& 63 : Int32) = nI 7 by decide, show f_Md_within (nI 7) 1 4 = some 0 by rw [p_win]; decide, Option.bind_some, if_pos (by decide), if_neg (by decide), if_neg (by decide), if_neg (by decide), show f_Md_within (nI 7) 12 15 = some 0 by rw [p_win]; decide, Option.bind_some, if_pos (by decide), if_neg (by decide), if_neg (by decide), if_neg (by decide), if_neg (nI_in hc (by omega)), nI_clamp (show c < 2 ^ 31 by omega)]
theorem p_M8 {a L e c : Nat} (ha : a < L) (hL : L ≤ 512) (he : e < 16) (hc : c < 16) (kd pl : Int32) (mb isC common code data row crow kept : Nat → Int32) (hce : common e = nI c) (hb : mb a = nI 8) : f_Md_instruction (nI a) (nI L) 0 kd pl mb isC common code data row crow kept (nI e) = ((f_Md_registerInstruction (nI (a + 1)) (nI L) 0 mb row (nI 8) (data c)).bind fun q => some (q.1, q.2.1, kd, pl, q.2.2, kept)) := by
  unfold f_Md_instruction
  rw [p_byte1 mb 0 ha hL, Option.bind_some]
  dsimp only
  rw [hb, if_neg (nI_in he (by omega)), if_neg (nI_in he (by omega)), nI_clamp (show e < 2 ^ 31 by omega), hce, if_pos (by decide), if_pos (by decide), if_pos (by decide), show (nI 8 &&& 63 : Int32) = nI 8 by decide, show f_Md_within (nI 8) 1 4 = some 0 by rw [p_win]; decide, Option.bind_some, if_pos (by decide), if_neg (by decide), if_neg (by decide), if_neg (by decide), show f_Md_within (nI 8) 12 15 = some 0 by rw [p_win]; decide, Option.bind_some, if_pos (by decide), if_neg (by decide), if_neg (by decide), if_neg (by decide), if_neg (nI_in hc (by omega)), nI_clamp (show c < 2 ^ 31 by omega)]
theorem p_M9 {a L e c : Nat} (ha : a < L) (hL : L ≤ 512) (he : e < 16) (hc : c < 16) (kd pl : Int32) (mb isC common code data row crow kept : Nat → Int32) (hce : common e = nI c) (hb : mb a = nI 9) : f_Md_instruction (nI a) (nI L) 0 kd pl mb isC common code data row crow kept (nI e) = ((f_Md_registerInstruction (nI (a + 1)) (nI L) 0 mb row (nI 9) (data c)).bind fun q => some (q.1, q.2.1, kd, pl, q.2.2, kept)) := by
  unfold f_Md_instruction
  rw [p_byte1 mb 0 ha hL, Option.bind_some]
  dsimp only
  rw [hb, if_neg (nI_in he (by omega)), if_neg (nI_in he (by omega)), nI_clamp (show e < 2 ^ 31 by omega), hce, if_pos (by decide), if_pos (by decide), if_pos (by decide), show (nI 9 &&& 63 : Int32) = nI 9 by decide, show f_Md_within (nI 9) 1 4 = some 0 by rw [p_win]; decide, Option.bind_some, if_pos (by decide), if_neg (by decide), if_neg (by decide), if_neg (by decide), show f_Md_within (nI 9) 12 15 = some 0 by rw [p_win]; decide, Option.bind_some, if_pos (by decide), if_neg (by decide), if_neg (by decide), if_neg (by decide), if_neg (nI_in hc (by omega)), nI_clamp (show c < 2 ^ 31 by omega)]
theorem p_M10 {a L e c : Nat} (ha : a < L) (hL : L ≤ 512) (he : e < 16) (hc : c < 16) (kd pl : Int32) (mb isC common code data row crow kept : Nat → Int32) (hce : common e = nI c) (hb : mb a = nI 10) : f_Md_instruction (nI a) (nI L) 0 kd pl mb isC common code data row crow kept (nI e) = ((f_Md_keepRow (if isC e = 0 then 0 else 1) kd row kept).bind fun q => some (nI (a + 1), q.1, q.2.1, pl, row, q.2.2)) := by
  unfold f_Md_instruction
  rw [p_byte1 mb 0 ha hL, Option.bind_some]
  dsimp only
  rw [hb, if_neg (nI_in he (by omega)), if_neg (nI_in he (by omega)), nI_clamp (show e < 2 ^ 31 by omega), hce, if_pos (by decide), if_pos (by decide), if_pos (by decide), show (nI 10 &&& 63 : Int32) = nI 10 by decide, show f_Md_within (nI 10) 1 4 = some 0 by rw [p_win]; decide, Option.bind_some, if_pos (by decide), if_pos (by decide)]
  unfold f_Md_instruction_253
  rw [if_pos rfl]
  by_cases hi : isC e = 0
  · rw [if_pos hi, if_pos hi, if_pos (by decide)]
  · rw [if_neg hi, if_neg hi, if_pos (by decide)]
theorem p_M11 {a L e c : Nat} (ha : a < L) (hL : L ≤ 512) (he : e < 16) (hc : c < 16) (kd pl : Int32) (mb isC common code data row crow kept : Nat → Int32) (hce : common e = nI c) (hb : mb a = nI 11) : f_Md_instruction (nI a) (nI L) 0 kd pl mb isC common code data row crow kept (nI e) = ((f_Md_bringBack (if isC e = 0 then 0 else 1) kd row kept).bind fun q => some (nI (a + 1), q.1, q.2.1, pl, q.2.2, kept)) := by
  unfold f_Md_instruction
  rw [p_byte1 mb 0 ha hL, Option.bind_some]
  dsimp only
  rw [hb, if_neg (nI_in he (by omega)), if_neg (nI_in he (by omega)), nI_clamp (show e < 2 ^ 31 by omega), hce, if_pos (by decide), if_pos (by decide), if_pos (by decide), show (nI 11 &&& 63 : Int32) = nI 11 by decide, show f_Md_within (nI 11) 1 4 = some 0 by rw [p_win]; decide, Option.bind_some, if_pos (by decide), if_neg (by decide), if_pos (by decide)]
  unfold f_Md_instruction_253
  rw [if_pos rfl]
  by_cases hi : isC e = 0
  · rw [if_pos hi, if_pos hi, if_neg (by decide)]
  · rw [if_neg hi, if_neg hi, if_neg (by decide)]
theorem p_M12 {a L e c : Nat} (ha : a < L) (hL : L ≤ 512) (he : e < 16) (hc : c < 16) (kd pl : Int32) (mb isC common code data row crow kept : Nat → Int32) (hce : common e = nI c) (hb : mb a = nI 12) : f_Md_instruction (nI a) (nI L) 0 kd pl mb isC common code data row crow kept (nI e) = ((f_Md_cfaInstruction (nI (a + 1)) (nI L) 0 mb row (nI 12) (data c)).bind fun q => some (q.1, q.2.1, kd, pl, q.2.2, kept)) := by
  unfold f_Md_instruction
  rw [p_byte1 mb 0 ha hL, Option.bind_some]
  dsimp only
  rw [hb, if_neg (nI_in he (by omega)), if_neg (nI_in he (by omega)), nI_clamp (show e < 2 ^ 31 by omega), hce, if_pos (by decide), if_pos (by decide), if_pos (by decide), show (nI 12 &&& 63 : Int32) = nI 12 by decide, show f_Md_within (nI 12) 1 4 = some 0 by rw [p_win]; decide, Option.bind_some, if_pos (by decide), if_neg (by decide), if_neg (by decide), if_neg (by decide), show f_Md_within (nI 12) 12 15 = some 1 by rw [p_win]; decide, Option.bind_some, if_neg (by decide), if_neg (nI_in hc (by omega)), nI_clamp (show c < 2 ^ 31 by omega)]
theorem p_M13 {a L e c : Nat} (ha : a < L) (hL : L ≤ 512) (he : e < 16) (hc : c < 16) (kd pl : Int32) (mb isC common code data row crow kept : Nat → Int32) (hce : common e = nI c) (hb : mb a = nI 13) : f_Md_instruction (nI a) (nI L) 0 kd pl mb isC common code data row crow kept (nI e) = ((f_Md_cfaInstruction (nI (a + 1)) (nI L) 0 mb row (nI 13) (data c)).bind fun q => some (q.1, q.2.1, kd, pl, q.2.2, kept)) := by
  unfold f_Md_instruction
  rw [p_byte1 mb 0 ha hL, Option.bind_some]
  dsimp only
  rw [hb, if_neg (nI_in he (by omega)), if_neg (nI_in he (by omega)), nI_clamp (show e < 2 ^ 31 by omega), hce, if_pos (by decide), if_pos (by decide), if_pos (by decide), show (nI 13 &&& 63 : Int32) = nI 13 by decide, show f_Md_within (nI 13) 1 4 = some 0 by rw [p_win]; decide, Option.bind_some, if_pos (by decide), if_neg (by decide), if_neg (by decide), if_neg (by decide), show f_Md_within (nI 13) 12 15 = some 1 by rw [p_win]; decide, Option.bind_some, if_neg (by decide), if_neg (nI_in hc (by omega)), nI_clamp (show c < 2 ^ 31 by omega)]
theorem p_M14 {a L e c : Nat} (ha : a < L) (hL : L ≤ 512) (he : e < 16) (hc : c < 16) (kd pl : Int32) (mb isC common code data row crow kept : Nat → Int32) (hce : common e = nI c) (hb : mb a = nI 14) : f_Md_instruction (nI a) (nI L) 0 kd pl mb isC common code data row crow kept (nI e) = ((f_Md_cfaInstruction (nI (a + 1)) (nI L) 0 mb row (nI 14) (data c)).bind fun q => some (q.1, q.2.1, kd, pl, q.2.2, kept)) := by
  unfold f_Md_instruction
  rw [p_byte1 mb 0 ha hL, Option.bind_some]
  dsimp only
  rw [hb, if_neg (nI_in he (by omega)), if_neg (nI_in he (by omega)), nI_clamp (show e < 2 ^ 31 by omega), hce, if_pos (by decide), if_pos (by decide), if_pos (by decide), show (nI 14 &&& 63 : Int32) = nI 14 by decide, show f_Md_within (nI 14) 1 4 = some 0 by rw [p_win]; decide, Option.bind_some, if_pos (by decide), if_neg (by decide), if_neg (by decide), if_neg (by decide), show f_Md_within (nI 14) 12 15 = some 1 by rw [p_win]; decide, Option.bind_some, if_neg (by decide), if_neg (nI_in hc (by omega)), nI_clamp (show c < 2 ^ 31 by omega)]
theorem p_M15 {a L e c : Nat} (ha : a < L) (hL : L ≤ 512) (he : e < 16) (hc : c < 16) (kd pl : Int32) (mb isC common code data row crow kept : Nat → Int32) (hce : common e = nI c) (hb : mb a = nI 15) : f_Md_instruction (nI a) (nI L) 0 kd pl mb isC common code data row crow kept (nI e) = ((f_Md_cfaInstruction (nI (a + 1)) (nI L) 0 mb row (nI 15) (data c)).bind fun q => some (q.1, q.2.1, kd, pl, q.2.2, kept)) := by
  unfold f_Md_instruction
  rw [p_byte1 mb 0 ha hL, Option.bind_some]
  dsimp only
  rw [hb, if_neg (nI_in he (by omega)), if_neg (nI_in he (by omega)), nI_clamp (show e < 2 ^ 31 by omega), hce, if_pos (by decide), if_pos (by decide), if_pos (by decide), show (nI 15 &&& 63 : Int32) = nI 15 by decide, show f_Md_within (nI 15) 1 4 = some 0 by rw [p_win]; decide, Option.bind_some, if_pos (by decide), if_neg (by decide), if_neg (by decide), if_neg (by decide), show f_Md_within (nI 15) 12 15 = some 1 by rw [p_win]; decide, Option.bind_some, if_neg (by decide), if_neg (nI_in hc (by omega)), nI_clamp (show c < 2 ^ 31 by omega)]
theorem p_M16 {a L e c : Nat} (ha : a < L) (hL : L ≤ 512) (he : e < 16) (hc : c < 16) (kd pl : Int32) (mb isC common code data row crow kept : Nat → Int32) (hce : common e = nI c) (hb : mb a = nI 16) : f_Md_instruction (nI a) (nI L) 0 kd pl mb isC common code data row crow kept (nI e) = ((f_Md_registerInstruction (nI (a + 1)) (nI L) 0 mb row (nI 16) (data c)).bind fun q => some (q.1, q.2.1, kd, pl, q.2.2, kept)) := by
  unfold f_Md_instruction
  rw [p_byte1 mb 0 ha hL, Option.bind_some]
  dsimp only
  rw [hb, if_neg (nI_in he (by omega)), if_neg (nI_in he (by omega)), nI_clamp (show e < 2 ^ 31 by omega), hce, if_pos (by decide), if_pos (by decide), if_pos (by decide), show (nI 16 &&& 63 : Int32) = nI 16 by decide, show f_Md_within (nI 16) 1 4 = some 0 by rw [p_win]; decide, Option.bind_some, if_pos (by decide), if_neg (by decide), if_neg (by decide), if_neg (by decide), show f_Md_within (nI 16) 12 15 = some 0 by rw [p_win]; decide, Option.bind_some, if_pos (by decide), if_neg (by decide), if_neg (by decide), if_neg (by decide), if_neg (nI_in hc (by omega)), nI_clamp (show c < 2 ^ 31 by omega)]
theorem p_M17 {a L e c : Nat} (ha : a < L) (hL : L ≤ 512) (he : e < 16) (hc : c < 16) (kd pl : Int32) (mb isC common code data row crow kept : Nat → Int32) (hce : common e = nI c) (hb : mb a = nI 17) : f_Md_instruction (nI a) (nI L) 0 kd pl mb isC common code data row crow kept (nI e) = ((f_Md_registerInstruction (nI (a + 1)) (nI L) 0 mb row (nI 17) (data c)).bind fun q => some (q.1, q.2.1, kd, pl, q.2.2, kept)) := by
  unfold f_Md_instruction
  rw [p_byte1 mb 0 ha hL, Option.bind_some]
  dsimp only
  rw [hb, if_neg (nI_in he (by omega)), if_neg (nI_in he (by omega)), nI_clamp (show e < 2 ^ 31 by omega), hce, if_pos (by decide), if_pos (by decide), if_pos (by decide), show (nI 17 &&& 63 : Int32) = nI 17 by decide, show f_Md_within (nI 17) 1 4 = some 0 by rw [p_win]; decide, Option.bind_some, if_pos (by decide), if_neg (by decide), if_neg (by decide), if_neg (by decide), show f_Md_within (nI 17) 12 15 = some 0 by rw [p_win]; decide, Option.bind_some, if_pos (by decide), if_neg (by decide), if_neg (by decide), if_neg (by decide), if_neg (nI_in hc (by omega)), nI_clamp (show c < 2 ^ 31 by omega)]
theorem p_M18 {a L e c : Nat} (ha : a < L) (hL : L ≤ 512) (he : e < 16) (hc : c < 16) (kd pl : Int32) (mb isC common code data row crow kept : Nat → Int32) (hce : common e = nI c) (hb : mb a = nI 18) : f_Md_instruction (nI a) (nI L) 0 kd pl mb isC common code data row crow kept (nI e) = ((f_Md_cfaInstruction (nI (a + 1)) (nI L) 0 mb row (nI 18) (data c)).bind fun q => some (q.1, q.2.1, kd, pl, q.2.2, kept)) := by
  unfold f_Md_instruction
  rw [p_byte1 mb 0 ha hL, Option.bind_some]
  dsimp only
  rw [hb, if_neg (nI_in he (by omega)), if_neg (nI_in he (by omega)), nI_clamp (show e < 2 ^ 31 by omega), hce, if_pos (by decide), if_pos (by decide), if_pos (by decide), show (nI 18 &&& 63 : Int32) = nI 18 by decide, show f_Md_within (nI 18) 1 4 = some 0 by rw [p_win]; decide, Option.bind_some, if_pos (by decide), if_neg (by decide), if_neg (by decide), if_neg (by decide), show f_Md_within (nI 18) 12 15 = some 0 by rw [p_win]; decide, Option.bind_some, if_pos (by decide), if_pos (by decide), if_neg (nI_in hc (by omega)), nI_clamp (show c < 2 ^ 31 by omega)]
theorem p_M19 {a L e c : Nat} (ha : a < L) (hL : L ≤ 512) (he : e < 16) (hc : c < 16) (kd pl : Int32) (mb isC common code data row crow kept : Nat → Int32) (hce : common e = nI c) (hb : mb a = nI 19) : f_Md_instruction (nI a) (nI L) 0 kd pl mb isC common code data row crow kept (nI e) = ((f_Md_cfaInstruction (nI (a + 1)) (nI L) 0 mb row (nI 19) (data c)).bind fun q => some (q.1, q.2.1, kd, pl, q.2.2, kept)) := by
  unfold f_Md_instruction
  rw [p_byte1 mb 0 ha hL, Option.bind_some]
  dsimp only
  rw [hb, if_neg (nI_in he (by omega)), if_neg (nI_in he (by omega)), nI_clamp (show e < 2 ^ 31 by omega), hce, if_pos (by decide), if_pos (by decide), if_pos (by decide), show (nI 19 &&& 63 : Int32) = nI 19 by decide, show f_Md_within (nI 19) 1 4 = some 0 by rw [p_win]; decide, Option.bind_some, if_pos (by decide), if_neg (by decide), if_neg (by decide), if_neg (by decide), show f_Md_within (nI 19) 12 15 = some 0 by rw [p_win]; decide, Option.bind_some, if_pos (by decide), if_neg (by decide), if_pos (by decide), if_neg (nI_in hc (by omega)), nI_clamp (show c < 2 ^ 31 by omega)]
theorem p_M20 {a L e c : Nat} (ha : a < L) (hL : L ≤ 512) (he : e < 16) (hc : c < 16) (kd pl : Int32) (mb isC common code data row crow kept : Nat → Int32) (hce : common e = nI c) (hb : mb a = nI 20) : f_Md_instruction (nI a) (nI L) 0 kd pl mb isC common code data row crow kept (nI e) = ((f_Md_registerInstruction (nI (a + 1)) (nI L) 0 mb row (nI 20) (data c)).bind fun q => some (q.1, q.2.1, kd, pl, q.2.2, kept)) := by
  unfold f_Md_instruction
  rw [p_byte1 mb 0 ha hL, Option.bind_some]
  dsimp only
  rw [hb, if_neg (nI_in he (by omega)), if_neg (nI_in he (by omega)), nI_clamp (show e < 2 ^ 31 by omega), hce, if_pos (by decide), if_pos (by decide), if_pos (by decide), show (nI 20 &&& 63 : Int32) = nI 20 by decide, show f_Md_within (nI 20) 1 4 = some 0 by rw [p_win]; decide, Option.bind_some, if_pos (by decide), if_neg (by decide), if_neg (by decide), if_neg (by decide), show f_Md_within (nI 20) 12 15 = some 0 by rw [p_win]; decide, Option.bind_some, if_pos (by decide), if_neg (by decide), if_neg (by decide), if_neg (by decide), if_neg (nI_in hc (by omega)), nI_clamp (show c < 2 ^ 31 by omega)]
theorem p_M21 {a L e c : Nat} (ha : a < L) (hL : L ≤ 512) (he : e < 16) (hc : c < 16) (kd pl : Int32) (mb isC common code data row crow kept : Nat → Int32) (hce : common e = nI c) (hb : mb a = nI 21) : f_Md_instruction (nI a) (nI L) 0 kd pl mb isC common code data row crow kept (nI e) = ((f_Md_registerInstruction (nI (a + 1)) (nI L) 0 mb row (nI 21) (data c)).bind fun q => some (q.1, q.2.1, kd, pl, q.2.2, kept)) := by
  unfold f_Md_instruction
  rw [p_byte1 mb 0 ha hL, Option.bind_some]
  dsimp only
  rw [hb, if_neg (nI_in he (by omega)), if_neg (nI_in he (by omega)), nI_clamp (show e < 2 ^ 31 by omega), hce, if_pos (by decide), if_pos (by decide), if_pos (by decide), show (nI 21 &&& 63 : Int32) = nI 21 by decide, show f_Md_within (nI 21) 1 4 = some 0 by rw [p_win]; decide, Option.bind_some, if_pos (by decide), if_neg (by decide), if_neg (by decide), if_neg (by decide), show f_Md_within (nI 21) 12 15 = some 0 by rw [p_win]; decide, Option.bind_some, if_pos (by decide), if_neg (by decide), if_neg (by decide), if_neg (by decide), if_neg (nI_in hc (by omega)), nI_clamp (show c < 2 ^ 31 by omega)]
theorem p_M22 {a L e c : Nat} (ha : a < L) (hL : L ≤ 512) (he : e < 16) (hc : c < 16) (kd pl : Int32) (mb isC common code data row crow kept : Nat → Int32) (hce : common e = nI c) (hb : mb a = nI 22) : f_Md_instruction (nI a) (nI L) 0 kd pl mb isC common code data row crow kept (nI e) = ((f_Md_registerInstruction (nI (a + 1)) (nI L) 0 mb row (nI 22) (data c)).bind fun q => some (q.1, q.2.1, kd, pl, q.2.2, kept)) := by
  unfold f_Md_instruction
  rw [p_byte1 mb 0 ha hL, Option.bind_some]
  dsimp only
  rw [hb, if_neg (nI_in he (by omega)), if_neg (nI_in he (by omega)), nI_clamp (show e < 2 ^ 31 by omega), hce, if_pos (by decide), if_pos (by decide), if_pos (by decide), show (nI 22 &&& 63 : Int32) = nI 22 by decide, show f_Md_within (nI 22) 1 4 = some 0 by rw [p_win]; decide, Option.bind_some, if_pos (by decide), if_neg (by decide), if_neg (by decide), if_neg (by decide), show f_Md_within (nI 22) 12 15 = some 0 by rw [p_win]; decide, Option.bind_some, if_pos (by decide), if_neg (by decide), if_neg (by decide), if_neg (by decide), if_neg (nI_in hc (by omega)), nI_clamp (show c < 2 ^ 31 by omega)]
