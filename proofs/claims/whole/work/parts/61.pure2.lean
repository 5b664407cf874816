/-! PURE: small rows of the model -/
theorem p_sx8 (v : Int32) : (v <<< ((24 : Int32) &&& 31)) >>> ((24 : Int32) &&& 31) = v.toInt8.toInt32 := by
  apply Int32.toBitVec_inj.mp
  rw [Int32.toBitVec_shiftRight, Int32.toBitVec_shiftLeft, Int8.toBitVec_toInt32, Int32.toBitVec_toInt8]
  show (v.toBitVec <<< (24 : Nat)).sshiftRight 24 = _
  apply BitVec.eq_of_getLsbD_eq
  intro i hi
  rw [BitVec.getLsbD_sshiftRight, BitVec.getLsbD_shiftLeft, BitVec.msb_eq_getLsbD_last, BitVec.getLsbD_shiftLeft, BitVec.getLsbD_signExtend, BitVec.msb_eq_getLsbD_last]
  rcases Nat.lt_or_ge i 8 with z | z
  · have e1 : 24 + i < 32 := by omega
    have e2 : ¬ 32 ≤ i := by omega
    have e3 : 24 + i - 24 = i := by omega
    have e5 : ¬ 24 + i < 24 := by omega
    simp [e1, e2, e3, e5, z, hi, BitVec.getElem_signExtend]
  · have e1 : ¬ 24 + i < 32 := by omega
    have e2 : ¬ 32 ≤ i := by omega
    have e4 : ¬ i < 8 := by omega
    simp [e1, e2, e4, hi, BitVec.getElem_signExtend]
theorem p_sx16 (v : Int32) : (v <<< ((16 : Int32) &&& 31)) >>> ((16 : Int32) &&& 31) = v.toInt16.toInt32 := by
  apply Int32.toBitVec_inj.mp
  rw [Int32.toBitVec_shiftRight, Int32.toBitVec_shiftLeft, Int16.toBitVec_toInt32, Int32.toBitVec_toInt16]
  show (v.toBitVec <<< (16 : Nat)).sshiftRight 16 = _
  apply BitVec.eq_of_getLsbD_eq
  intro i hi
  rw [BitVec.getLsbD_sshiftRight, BitVec.getLsbD_shiftLeft, BitVec.msb_eq_getLsbD_last, BitVec.getLsbD_shiftLeft, BitVec.getLsbD_signExtend, BitVec.msb_eq_getLsbD_last]
  rcases Nat.lt_or_ge i 16 with z | z
  · have e1 : 16 + i < 32 := by omega
    have e2 : ¬ 32 ≤ i := by omega
    have e3 : 16 + i - 16 = i := by omega
    have e5 : ¬ 16 + i < 16 := by omega
    simp [e1, e2, e3, e5, z, hi, BitVec.getElem_signExtend]
  · have e1 : ¬ 16 + i < 32 := by omega
    have e2 : ¬ 32 ≤ i := by omega
    have e4 : ¬ i < 16 := by omega
    simp [e1, e2, e4, hi, BitVec.getElem_signExtend]
theorem p_signed1 {mb bb : Nat → Int32} (hB : pB mb bb) {a L : Nat} (ha : a ≤ L) (hL : L ≤ 512) : f_Rd_signed (nI a) (nI L) 0 bb 1 = f_Md_signed (nI a) (nI L) 0 mb 1 := by
  unfold f_Rd_signed f_Md_signed
  rw [show (1 : Int32) = nI 1 from rfl, p_uns hB ha hL (by omega)]
  cases f_Md_unsigned (nI a) (nI L) 0 mb (nI 1) with
  | none => rw [Option.bind_none, Option.bind_none]
  | some q => rw [Option.bind_some, Option.bind_some, if_pos rfl, show (32 - 8 * nI 1 : Int32) = 24 by decide, p_sx8]
theorem p_signed2 {mb bb : Nat → Int32} (hB : pB mb bb) {a L : Nat} (ha : a ≤ L) (hL : L ≤ 512) : f_Rd_signed (nI a) (nI L) 0 bb 2 = f_Md_signed (nI a) (nI L) 0 mb 2 := by
  unfold f_Rd_signed f_Md_signed
  rw [show (2 : Int32) = nI 2 from rfl, p_uns hB ha hL (by omega)]
  cases f_Md_unsigned (nI a) (nI L) 0 mb (nI 2) with
  | none => rw [Option.bind_none, Option.bind_none]
  | some q => rw [Option.bind_some, Option.bind_some, if_neg (show ¬ nI 2 = (1 : Int32) by decide), if_pos rfl, show (32 - 8 * nI 2 : Int32) = 16 by decide, p_sx16]
theorem p_win (v lo hi : Int32) : f_Md_within v lo hi = some (if v < lo then 0 else if hi < v then 0 else 1) := by
  unfold f_Md_within
  split
  · rfl
  · split <;> rfl
theorem p_win8 {k : Nat} (h : k < 8) : f_Md_within (nI k) 0 7 = some 1 := by
  rw [p_win, if_neg (nI_pos (by omega)), if_neg (show ¬ (7 : Int32) < nI k from nI_nlt (b := k) (a := 7) (by omega) (by omega))]
theorem p_win8n {r : Int32} (h : ¬ ∃ k, k < 8 ∧ r = nI k) : f_Md_within r 0 7 = some 0 := by
  rw [p_win]
  rcases pk_ix r (n := 8) (by omega) with z | z | z
  · rw [if_pos z]
  · by_cases y : r < 0
    · rw [if_pos y]
    · have z2 : (7 : Int32) < r := by
        rw [Int32.le_iff_toInt_le] at z
        rw [Int32.lt_iff_toInt_lt]
        have e8 : (nI 8).toInt = 8 := by decide
        have e7 : (7 : Int32).toInt = 7 := by decide
        omega
      rw [if_neg y, if_pos z2]
  · exact absurd z h
def pRule (row : Nat → Int32) (k : Nat) (a b c : Int32) : Nat → Int32 := upd (upd (upd row k a) (8 + k) b) (16 + k) c
theorem p_rule (b : Int32) (row : Nat → Int32) {k : Nat} (h : k < 8) (x y z : Int32) : f_Md_rule b row (nI k) x y z = some (b, pRule row k x y z) := by
  unfold f_Md_rule
  have e8 : (8 : Int32) + nI k = nI (8 + k) := nI_add 8 k
  have e16 : (16 : Int32) + nI k = nI (16 + k) := nI_add 16 k
  rw [p_win8 h, Option.bind_some, if_neg (by decide), e8, e16, if_neg (nI_in (by omega) (by omega)), if_neg (nI_in (by omega) (by omega)), if_neg (nI_in (by omega) (by omega)), nI_clamp (by omega), nI_clamp (by omega), nI_clamp (by omega)]
  rfl
theorem p_ruleN (b : Int32) (row : Nat → Int32) {r : Int32} (h : ¬ ∃ k, k < 8 ∧ r = nI k) (x y z : Int32) : f_Md_rule b row r x y z = some (1, row) := by
  unfold f_Md_rule
  rw [p_win8n h, Option.bind_some, if_pos rfl]
theorem p_restore (b : Int32) (row crow : Nat → Int32) {k : Nat} (h : k < 8) : f_Md_restore b row crow (nI k) = some (b, pRule row k (crow k) (crow (8 + k)) (crow (16 + k))) := by
  unfold f_Md_restore
  have e8 : (8 : Int32) + nI k = nI (8 + k) := nI_add 8 k
  have e16 : (16 : Int32) + nI k = nI (16 + k) := nI_add 16 k
  rw [p_win8 h, Option.bind_some, if_neg (by decide), e8, e16, if_neg (nI_in (by omega) (by omega)), if_neg (nI_in (by omega) (by omega)), if_neg (nI_in (by omega) (by omega)), nI_clamp (by omega), nI_clamp (by omega), nI_clamp (by omega), p_rule _ _ h, Option.bind_some]
theorem p_restoreN (b : Int32) (row crow : Nat → Int32) {r : Int32} (h : ¬ ∃ k, k < 8 ∧ r = nI k) : f_Md_restore b row crow r = some (1, row) := by
  unfold f_Md_restore
  rw [p_win8n h, Option.bind_some, if_pos rfl]
def pCfa (row : Nat → Int32) (a b c : Int32) : Nat → Int32 := upd (upd (upd row 24 a) 25 b) 26 c
theorem p_cfa (row : Nat → Int32) (a b c : Int32) : f_Md_cfa row a b c = some (pCfa row a b c) := by
  unfold f_Md_cfa
  rw [if_neg (by decide), if_neg (by decide), if_neg (by decide)]
  rfl
/-- register(): what leb gives, bad where there is no such register -/
theorem p_Mreg (mb : Nat → Int32) {a L : Nat} (ha : a ≤ L) (hL : L ≤ 512) (b : Int32) {w b' : Int32} {a' : Nat} (h : f_Md_leb (nI a) (nI L) b mb 0 = some (w, nI a', b')) : f_Md_register_ (nI a) (nI L) b mb = some (w, nI a', if b' = 0 ∧ f_Md_within w 0 7 = some 1 then 0 else 1) := by
  unfold f_Md_register_
  rw [h, Option.bind_some]
  dsimp only
  by_cases hb : b' = 0
  · rw [if_pos hb]
    by_cases hw : ∃ k, k < 8 ∧ w = nI k
    · obtain ⟨k, hk, rfl⟩ := hw
      rw [p_win8 hk, Option.bind_some, if_neg (by decide), if_pos ⟨hb, rfl⟩]
    · rw [p_win8n hw, Option.bind_some, if_pos rfl, if_neg (fun z => absurd z.2 (by decide))]
  · rw [if_neg hb, if_neg (fun z => hb z.1)]
/-- a block in the model against the class's skip -/
theorem p_block (t l b n : Int32) : ∃ t' b', f_Rd_skip t l 0 n = some (t', b') ∧ (b' = 0 ∨ b' = 1) ∧ f_Md_block t l b n = some (t, t', if b' = 0 then b else 1) := by
  unfold f_Rd_skip f_Md_block
  rw [if_pos rfl]
  by_cases h1 : n < 0
  · rw [if_pos h1, if_pos h1]; exact ⟨t, 1, rfl, Or.inr rfl, rfl⟩
  · rw [if_neg h1, if_neg h1]
    by_cases h2 : n ≤ l - t
    · rw [if_pos h2, if_pos h2]; exact ⟨t + n, 0, rfl, Or.inl rfl, rfl⟩
    · rw [if_neg h2, if_neg h2]; exact ⟨t, 1, rfl, Or.inr rfl, rfl⟩
theorem p_blockIn {a L : Nat} (ha : a ≤ L) (hL : L ≤ 512) (n b : Int32) : ∃ (a' : Nat) (b' : Int32), f_Rd_skip (nI a) (nI L) 0 n = some (nI a', b') ∧ (b' = 0 ∨ b' = 1) ∧ a ≤ a' ∧ a' ≤ L ∧ (b' = 0 → n = nI (a' - a)) ∧ f_Md_block (nI a) (nI L) b n = some (nI a, nI a', if b' = 0 then b else 1) := by
  unfold f_Rd_skip f_Md_block
  rw [if_pos rfl, pk_sub ha]
  by_cases h1 : n < 0
  · rw [if_pos h1, if_pos h1]; exact ⟨a, 1, rfl, Or.inr rfl, Nat.le_refl _, ha, (fun z => absurd z (by decide)), rfl⟩
  · rw [if_neg h1, if_neg h1]
    obtain ⟨j, hj, rfl⟩ := nI_of h1
    by_cases h2 : nI j ≤ nI (L - a)
    · have h3 := (nI_leI hj (by omega)).mp h2
      rw [if_pos h2, if_pos h2, nI_add]
      exact ⟨a + j, 0, rfl, Or.inl rfl, by omega, by omega, (fun _ => by rw [Nat.add_sub_cancel_left]), rfl⟩
    · rw [if_neg h2, if_neg h2]; exact ⟨a, 1, rfl, Or.inr rfl, Nat.le_refl _, ha, (fun z => absurd z (by decide)), rfl⟩
def pKeep (kept : Nat → Int32) (d x : Nat) (row : Nat → Int32) : Nat → Int32 := fun i => if 27 * d ≤ i ∧ i < 27 * d + x then row (i - 27 * d) else kept i
theorem p_keepL (b : Int32) (row kept : Nat → Int32) {d : Nat} (hd : d < 4) : ∀ (k n x : Nat), x + k = 27 → k < n → f_Md_keepRow_16 n b (nI d) row (pKeep kept d x row) (nI x) = some (b, nI (d + 1), pKeep kept d 27 row) := by
  intro k
  induction k with
  | zero =>
    intro n x hx hn
    match n, hn with
    | n + 1, _ =>
      obtain rfl : x = 27 := by omega
      rw [f_Md_keepRow_16, if_pos (by decide), nI_1]
  | succ k ih =>
    intro n x hx hn
    match n, hn with
    | n + 1, hn =>
      have e : (27 : Int32) * nI d + nI x = nI (27 * d + x) := by rw [show (27 : Int32) = nI 27 from rfl, pk_mul, nI_add]
      rw [f_Md_keepRow_16, if_neg (show ¬ (27 : Int32) ≤ nI x from nI_ge (b := 27) (by omega) (by omega)), if_neg (nI_in (by omega) (by omega)), e, if_neg (nI_in (by omega) (by omega)), nI_clamp (by omega), nI_clamp (by omega), nI_1]
      have e2 : upd (pKeep kept d x row) (27 * d + x) (row x) = pKeep kept d (x + 1) row := by
        funext i
        unfold upd pKeep
        by_cases hi : i = 27 * d + x
        · subst hi
          rw [if_pos rfl, if_pos ⟨by omega, by omega⟩, Nat.add_sub_cancel_left]
        · rw [if_neg hi]
          by_cases h2 : 27 * d ≤ i ∧ i < 27 * d + x
          · rw [if_pos h2, if_pos ⟨h2.1, by omega⟩]
          · rw [if_neg h2, if_neg (fun z => h2 ⟨z.1, by omega⟩)]
      rw [e2]
      exact ih n (x + 1) (by omega) (by omega)
theorem p_keep (b : Int32) (row kept : Nat → Int32) {d : Nat} (hd : d < 4) : f_Md_keepRow b (nI d) row kept = some (b, nI (d + 1), pKeep kept d 27 row) := by
  unfold f_Md_keepRow
  rw [if_neg (show ¬ nI d = (4 : Int32) from fun z => absurd ((nI_eq (b := 4) (by omega) (by omega)).mp z) (by omega))]
  have h := p_keepL b row kept hd 27 LF 0 rfl (by unfold LF; omega)
  have e0 : pKeep kept d 0 row = kept := by
    funext i
    unfold pKeep
    rw [if_neg (by omega)]
  rw [e0] at h
  exact h
theorem p_keepN (b : Int32) (row kept : Nat → Int32) : f_Md_keepRow b (nI 4) row kept = some (1, nI 4, kept) := by
  unfold f_Md_keepRow
  exact if_pos (by decide)
def pBack (kept row : Nat → Int32) (d x : Nat) : Nat → Int32 := fun i => if i < x then kept (27 * d + i) else row i
theorem p_backL (b : Int32) (row kept : Nat → Int32) {d : Nat} (hd : d < 4) : ∀ (k n x : Nat), x + k = 27 → k < n → f_Md_bringBack_25 n b (nI d) (pBack kept row d x) kept (nI x) = some (b, nI d, pBack kept row d 27) := by
  intro k
  induction k with
  | zero =>
    intro n x hx hn
    match n, hn with
    | n + 1, _ =>
      obtain rfl : x = 27 := by omega
      rw [f_Md_bringBack_25, if_pos (by decide)]
  | succ k ih =>
    intro n x hx hn
    match n, hn with
    | n + 1, hn =>
      have e : (27 : Int32) * nI d + nI x = nI (27 * d + x) := by rw [show (27 : Int32) = nI 27 from rfl, pk_mul, nI_add]
      rw [f_Md_bringBack_25, if_neg (show ¬ (27 : Int32) ≤ nI x from nI_ge (b := 27) (by omega) (by omega)), e, if_neg (nI_in (by omega) (by omega)), if_neg (nI_in (by omega) (by omega)), nI_clamp (by omega), nI_clamp (by omega), nI_1]
      have e2 : upd (pBack kept row d x) x (kept (27 * d + x)) = pBack kept row d (x + 1) := by
        funext i
        unfold upd pBack
        by_cases hi : i = x
        · subst hi
          rw [if_pos rfl, if_pos (by omega)]
        · rw [if_neg hi]
          by_cases h2 : i < x
          · rw [if_pos h2, if_pos (by omega)]
          · rw [if_neg h2, if_neg (by omega)]
      rw [e2]
      exact ih n (x + 1) (by omega) (by omega)
theorem p_back (b : Int32) (row kept : Nat → Int32) {d : Nat} (hd : d < 4) : f_Md_bringBack b (nI (d + 1)) row kept = some (b, nI d, pBack kept row d 27) := by
  unfold f_Md_bringBack
  rw [if_neg (show ¬ nI (d + 1) = (0 : Int32) from nI_ne0 (by omega) (by omega)), nI_pred]
  have h := p_backL b row kept hd 27 LF 0 rfl (by unfold LF; omega)
  have e0 : pBack kept row d 0 = row := by
    funext i
    unfold pBack
    rw [if_neg (by omega)]
  rw [e0] at h
  exact h
theorem p_backN (b : Int32) (row kept : Nat → Int32) : f_Md_bringBack b (nI 0) row kept = some (1, nI 0, row) := by
  unfold f_Md_bringBack
  exact if_pos (by decide)
